/** Promises 15, 16, 26 and 30: sums, who sees what, the largest files, counts. */
public final class SumsTest {
    public static void main(String[] args) {
        promise15Sum();
        promise15WhoMayAsk();
        promise15Refused();
        promise16Named();
        promise16WhoSees();
        promise26Largest();
        promise30Count();
        Due.end();
    }

    private static void promise15Sum() {
        RoomGone x = new RoomGone();
        x.folder(0, 0, false);
        x.folder(1, 0, false);
        Stores.fileIn(x, 1, 1, 2);
        Stores.fileIn(x, 2, 1, 3);
        x.hole(1, 3);
        x.share(1, 4, 0, 0);
        x.link(0, 2);
        x.link(0, 2);
        Due.is("taken of 2: 0 has 2, 1 has 3 and one of these", x.sum(2, 0, 0), 5);
        Due.is("told of 2", x.sum(2, 0, 1), 7);
        Due.is("files of 2, each once", x.sum(2, 0, 2), 2);
        Due.is("taken of 1", x.sum(1, 0, 0), 5);
        Due.is("told of the root, each file once", x.sum(0, 0, 1), 7);
        Stores.fileIn(x, 0, 1, 4);
        Due.is("told of 1, without what is above", x.sum(1, 0, 1), 7);
        Due.is("told of the root, with it", x.sum(0, 0, 1), 11);
        x.unlink(4);
        x.unlink(1);
        Due.is("taken of 2 without file 1", x.sum(2, 0, 0), 2);
        x.snapshot();
        x.cut(0, 0);
        Due.is("what snapshots have isn't taken", x.sum(0, 0, 0), 0);
        Due.is("a file without blocks is one", x.sum(0, 0, 2), 1);
    }

    private static void promise15WhoMayAsk() {
        RoomGone x = new RoomGone();
        x.folder(0, 1, true);
        x.folder(1, 2, false);
        x.folder(2, 3, true);
        x.folder(1, 2, true);
        Stores.fileIn(x, 3, 1, 2);
        Due.is("the root, with what is hidden", x.sum(0, 5, 0), 2);
        Due.is("a hidden one right in the root", x.sum(1, 5, 0), 2);
        Due.none("one in a hidden one, by a stranger", x.sum(2, 5, 0));
        Due.none("its own owner doesn't see it", x.sum(2, 2, 0));
        Due.none("a hidden one in it, by its owner", x.sum(4, 2, 0));
        Due.is("the owner of the hidden one sees", x.sum(2, 1, 0), 2);
        Due.is("right in one that is seen", x.sum(3, 1, 0), 2);
        Due.none("its owner sees none above", x.sum(3, 3, 0));
        x.move(2, 0);
        Due.is("moved out of what is hidden", x.sum(2, 5, 0), 2);
        Due.is("right in it", x.sum(3, 5, 0), 2);
    }

    private static void promise15Refused() {
        RoomGone x = new RoomGone();
        Due.none("who 6", x.sum(0, 6, 0));
        Due.none("who -1", x.sum(0, -1, 0));
        Due.none("what 3", x.sum(0, 0, 3));
        Due.none("what -1", x.sum(0, 0, -1));
        Due.none("no such folder", x.sum(1, 0, 0));
        Due.none("folder NONE", x.sum(-1, 0, 0));
    }

    private static void promise16Named() {
        RoomGone x = new RoomGone();
        x.folder(0, 0, false);
        x.file(0, 0, 0);
        x.file(1, 0, 0);
        x.file(0, 0, 0);
        x.link(1, 0);
        Due.is("first", x.named(0, 0, 0), 0);
        Due.is("second: the one in folder 1 isn't in the root", x.named(0, 0, 1), 2);
        Due.is("third", x.named(0, 0, 2), 3);
        Due.none("fourth", x.named(0, 0, 3));
        Due.none("i -1", x.named(0, 0, -1));
        Due.is("in folder 1", x.named(1, 0, 0), 1);
        Due.none("no more in folder 1", x.named(1, 0, 1));
        x.unlink(0);
        Due.is("the first went", x.named(0, 0, 0), 2);
        Due.none("two are left", x.named(0, 0, 2));
        Due.none("no such folder", x.named(2, 0, 0));
        Due.none("folder NONE", x.named(-1, 0, 0));
        Due.none("who 6", x.named(0, 6, 0));
        Due.none("who -1", x.named(0, -1, 0));
    }

    private static void promise16WhoSees() {
        RoomGone x = new RoomGone();
        x.folder(0, 1, true);
        x.folder(1, 2, false);
        x.folder(2, 3, true);
        x.file(1, 0, 0);
        x.file(2, 0, 0);
        x.file(3, 0, 0);
        Due.none("hidden from a stranger", x.named(1, 0, 0));
        Due.is("its owner", x.named(1, 1, 0), 0);
        Due.none("under a hidden one", x.named(2, 2, 0));
        Due.is("seen by the owner above", x.named(2, 1, 0), 1);
        Due.none("hidden, in one that is seen", x.named(3, 1, 0));
        Due.none("its owner sees none above", x.named(3, 3, 0));
        x.move(3, 0);
        Due.is("its owner sees it in the root", x.named(3, 3, 0), 2);
    }

    private static void promise26Largest() {
        RoomGone x = new RoomGone();
        x.folder(0, 0, false);
        Stores.fileIn(x, 0, 1, 1);
        Stores.fileIn(x, 1, 1, 2);
        Stores.fileIn(x, 1, 1, 3);
        Stores.fileIn(x, 1, 1, 2);
        x.share(0, 1, 0, 0);
        x.share(0, 2, 0, 0);
        x.hole(0, 3);
        x.link(2, 0);
        int[] due = {2, 1, 3, 0};
        for (int k = 0; k < due.length; k++) {
            Due.is("largest(0, " + k + ")", x.largest(0, k), due[k]);
        }
        Due.none("no fifth", x.largest(0, 4));
        Due.is("of folder 1, the third", x.largest(1, 2), 3);
        Due.none("folder 1 has three", x.largest(1, 3));
        Due.none("k -1", x.largest(0, -1));
        Due.none("no such folder", x.largest(2, 0));
        Due.none("folder NONE", x.largest(-1, 0));
        x.unlink(x.named(1, 0, 0));
        Due.is("file 1 is gone", x.largest(0, 1), 3);
        x.cut(3, 0);
        Due.is("one without blocks is the last", x.largest(0, 2), 3);
    }

    private static void promise30Count() {
        RoomGone x = new RoomGone();
        x.go(12);
        x.folder(0, 0, false);
        Stores.fileOf(x, 4);
        Stores.fileOf(x, 1);
        x.link(0, 1);
        x.snapshot();
        x.snapshot();
        x.mark();
        x.unlink(1);
        x.cut(0, 1);
        x.share(0, 1, 0, 0);
        x.holds(9);
        int[] due = {12, 2, 1, 2, 2, 1, 5, 9};
        for (int what = 0; what < due.length; what++) {
            Due.is("count(" + what + ")", x.count(what), due[what]);
        }
        x.drop(0);
        Due.is("one snapshot went", x.count(4), 1);
        x.drop(1);
        Due.is("both went", x.count(6), 1);
        Due.none("count(8)", x.count(8));
        Due.none("count(-1)", x.count(-1));
    }
}
