/** The boundary cases of promises 15, 16, 26 and 30, a test for each sentence that names one. */
public final class SumsEdgesTest {
    private static final int LEAST = Integer.MIN_VALUE;
    private static final int GREATEST = Integer.MAX_VALUE;

    public static void main(String[] args) {
        promise15NoneSuch();
        promise15OfNothing();
        promise15TheGreatest();
        promise15EachOnce();
        promise15OnlyItsTree();
        promise15SeenOrRightInOneSeen();
        promise15AllAboveAreSeen();
        promise15DeepBelowAHiddenOne();
        promise15HiddenCountsInSums();
        promise16NoneSuch();
        promise16OfNothing();
        promise16HundredNames();
        promise16RightInItAlone();
        promise16NotSeenThoughSummed();
        promise26NoneSuch();
        promise26OfNothing();
        promise26FortyFiles();
        promise26OfLikeOnesTheLeast();
        promise26TwiceCountsOnce();
        promise30Others();
        promise30TheGreatest();
        promise30ThoseThere();
        Due.end();
    }

    private static void promise15NoneSuch() {
        Due.about("promise 15, there is none such");
        RoomGone x = new RoomGone();
        x.folder(0, 0, false);
        for (int folder : new int[] {-1, 2, 29, 30, LEAST, GREATEST}) {
            for (int what = 0; what < 3; what++) {
                Due.none("folder " + folder + ", what " + what, x.sum(folder, 0, what));
            }
        }
        for (int who : new int[] {-1, 6, LEAST, GREATEST}) {
            Due.none("who " + who, x.sum(0, who, 0));
            Due.none("who " + who + " of 1", x.sum(1, who, 2));
        }
        for (int what : new int[] {-1, 3, 4, LEAST, GREATEST}) {
            Due.none("what " + what, x.sum(0, 0, what));
        }
    }

    private static void promise15OfNothing() {
        Due.about("promise 15, of nothing");
        RoomGone x = new RoomGone();
        x.folder(0, 0, false);
        x.file(0, 0, 0);
        for (int what = 0; what < 3; what++) {
            Due.is("an empty folder, what " + what, x.sum(1, 5, what), 0);
        }
        Due.is("an empty file: taken", x.sum(0, 5, 0), 0);
        Due.is("an empty file: told", x.sum(0, 5, 1), 0);
        Due.is("an empty file: files", x.sum(0, 5, 2), 1);
        x.hole(0, 0);
        Due.is("a hole isn't taken", x.sum(0, 5, 0), 0);
        Due.is("a hole is told", x.sum(0, 5, 1), 1);
        x.unlink(0);
        for (int what = 0; what < 3; what++) {
            Due.is("it is gone, what " + what, x.sum(0, 5, what), 0);
        }
    }

    private static void promise15TheGreatest() {
        Due.about("promise 15, the greatest sums");
        RoomGone x = new RoomGone();
        Stores.fileOf(x, 60);
        for (int file = 1; file < 40; file++) {
            x.copy(0, 0);
        }
        Due.is("taken", x.sum(0, 5, 0), 60);
        Due.is("told", x.sum(0, 5, 1), 2400);
        Due.is("files", x.sum(0, 5, 2), 40);
    }

    private static void promise15EachOnce() {
        Due.about("promise 15, each FILE and each BLOCK once");
        RoomGone x = new RoomGone();
        x.folder(0, 0, false);
        Stores.fileIn(x, 1, 1, 2);
        x.share(0, 2, 0, 0);
        x.link(0, 1);
        x.link(0, 0);
        x.copy(0, 1);
        Due.is("taken", x.sum(1, 0, 0), 2);
        Due.is("told", x.sum(1, 0, 1), 6);
        Due.is("files", x.sum(1, 0, 2), 2);
        Due.is("files of the root's", x.sum(0, 0, 2), 2);
        x.unlink(0);
        Due.is("by the other name in it", x.sum(1, 0, 2), 2);
        x.unlink(1);
        Due.is("the name outside doesn't count", x.sum(1, 0, 2), 1);
        Due.is("taken by the copy", x.sum(1, 0, 0), 2);
    }

    private static void promise15OnlyItsTree() {
        Due.about("promise 15, of a TREE");
        RoomGone x = new RoomGone();
        x.folder(0, 0, false);
        x.folder(0, 0, false);
        x.folder(1, 0, false);
        Stores.fileIn(x, 0, 1, 1);
        Stores.fileIn(x, 1, 1, 2);
        Stores.fileIn(x, 2, 1, 3);
        Stores.fileIn(x, 3, 1, 4);
        int[] due = {10, 6, 3, 4};
        for (int folder = 0; folder < due.length; folder++) {
            Due.is("taken of " + folder, x.sum(folder, 0, 0), due[folder]);
            Due.is("told of " + folder, x.sum(folder, 0, 1), due[folder]);
        }
    }

    private static void promise15SeenOrRightInOneSeen() {
        Due.about("promise 15, of those seen, and of those right IN one that is seen");
        RoomGone x = new RoomGone();
        x.folder(0, 1, true);
        x.folder(1, 0, false);
        x.folder(1, 0, true);
        for (int who = 0; who < 6; who++) {
            Due.is("hidden, in the root, by " + who, x.sum(1, who, 0), 0);
            Due.is("not hidden, in a hidden one, by " + who, x.sum(2, who, 0), who == 1 ? 0 : -1);
            Due.is("hidden, in a hidden one, by " + who, x.sum(3, who, 0), who == 1 ? 0 : -1);
        }
    }

    private static void promise15AllAboveAreSeen() {
        Due.about("promise 15, if all FOLDERS above are seen");
        RoomGone x = new RoomGone();
        x.folder(0, 1, true);
        x.folder(1, 2, true);
        x.folder(2, 2, true);
        x.folder(3, 1, false);
        Due.is("1's own, in the root", x.sum(1, 1, 0), 0);
        Due.is("2's, in one that 1 sees", x.sum(2, 1, 0), 0);
        Due.none("right in one that 1 doesn't see", x.sum(3, 1, 0));
        Due.none("1's own, below it", x.sum(4, 1, 0));
        Due.none("2's own, in one that 2 doesn't see", x.sum(2, 2, 0));
        Due.none("2's own, in 2's own that isn't seen", x.sum(3, 2, 0));
        x.move(2, 0);
        Due.is("2's own, in the root now", x.sum(2, 2, 0), 0);
        Due.is("2's own, in it", x.sum(3, 2, 0), 0);
        Due.is("1's, below these", x.sum(4, 2, 0), 0);
        Due.none("1 sees no more of 1's own there", x.sum(4, 1, 0));
    }

    private static void promise15DeepBelowAHiddenOne() {
        Due.about("promise 15, 28 levels below a hidden one");
        RoomGone x = new RoomGone();
        x.folder(0, 3, true);
        for (int folder = 2; folder < 30; folder++) {
            x.folder(folder - 1, 0, false);
        }
        x.file(29, 0, 0);
        Due.is("by its owner", x.sum(29, 3, 2), 1);
        Due.none("by a stranger", x.sum(29, 0, 2));
        Due.none("by a stranger, right below", x.sum(2, 0, 2));
        Due.is("by a stranger, the hidden one", x.sum(1, 0, 2), 1);
        Due.is("named to its owner", x.named(29, 3, 0), 0);
        Due.none("not named to a stranger", x.named(29, 0, 0));
    }

    private static void promise15HiddenCountsInSums() {
        Due.about("promise 15, hidden but for sums");
        RoomGone x = new RoomGone();
        x.folder(0, 0, false);
        x.folder(1, 2, true);
        x.folder(2, 2, true);
        Stores.fileIn(x, 3, 1, 3);
        Due.is("of the root", x.sum(0, 5, 0), 3);
        Due.is("of one that is seen", x.sum(1, 5, 1), 3);
        Due.is("of the hidden one in it", x.sum(2, 5, 2), 1);
        Due.none("not of one in that", x.sum(3, 5, 0));
    }

    private static void promise16NoneSuch() {
        Due.about("promise 16, there is none such");
        RoomGone x = new RoomGone();
        x.file(0, 0, 0);
        for (int folder : new int[] {-1, 1, 30, LEAST, GREATEST}) {
            Due.none("folder " + folder, x.named(folder, 0, 0));
        }
        for (int who : new int[] {-1, 6, LEAST, GREATEST}) {
            Due.none("who " + who, x.named(0, who, 0));
        }
        for (int i : new int[] {-1, 1, 100, LEAST, GREATEST}) {
            Due.none("i " + i, x.named(0, 0, i));
        }
        Due.is("the one there is", x.named(0, 5, 0), 0);
    }

    private static void promise16OfNothing() {
        Due.about("promise 16, an empty FOLDER");
        RoomGone x = new RoomGone();
        x.folder(0, 0, false);
        x.file(0, 0, 0);
        Due.none("none is in it", x.named(1, 0, 0));
        x.link(0, 1);
        Due.is("one", x.named(1, 0, 0), 1);
        x.unlink(1);
        Due.none("it went", x.named(1, 0, 0));
    }

    private static void promise16HundredNames() {
        Due.about("promise 16, the i-th NAME, by numbers");
        RoomGone x = new RoomGone();
        x.file(0, 0, 0);
        for (int name = 1; name < 100; name++) {
            x.link(0, 0);
        }
        for (int i = 0; i < 100; i++) {
            Due.is("i " + i, x.named(0, 0, i), i);
        }
        Due.none("i 100", x.named(0, 0, 100));
        x.unlink(40);
        Due.is("i 39", x.named(0, 0, 39), 39);
        Due.is("i 40, after one went", x.named(0, 0, 40), 41);
        Due.is("i 98", x.named(0, 0, 98), 99);
        Due.none("i 99", x.named(0, 0, 99));
    }

    private static void promise16RightInItAlone() {
        Due.about("promise 16, IN a FOLDER");
        RoomGone x = new RoomGone();
        x.folder(0, 0, false);
        x.file(1, 0, 0);
        Due.none("what is in one in it isn't in it", x.named(0, 0, 0));
        x.link(0, 0);
        x.move(1, 0);
        Due.is("in the root", x.named(0, 0, 0), 1);
        Due.none("no more there", x.named(0, 0, 1));
        Due.is("in folder 1", x.named(1, 0, 0), 0);
    }

    private static void promise16NotSeenThoughSummed() {
        Due.about("promise 16, NONE if it isn't seen");
        RoomGone x = new RoomGone();
        x.folder(0, 1, true);
        x.folder(1, 2, false);
        x.folder(2, 1, true);
        for (int folder = 1; folder < 4; folder++) {
            x.file(folder, 2, 0);
        }
        for (int who = 0; who < 6; who++) {
            Due.is("sums of 1 by " + who, x.sum(1, who, 2), 3);
            for (int folder = 1; folder < 4; folder++) {
                Due.is("named(" + folder + ", " + who + ", 0)", x.named(folder, who, 0),
                    who == 1 ? folder - 1 : RoomGone.NONE);
            }
        }
        x.link(0, 0);
        Due.is("its name in one that is seen is told", x.named(0, 5, 0), 3);
    }

    private static void promise26NoneSuch() {
        Due.about("promise 26, there is none such");
        RoomGone x = new RoomGone();
        Stores.fileOf(x, 1);
        for (int folder : new int[] {-1, 1, 30, LEAST, GREATEST}) {
            Due.none("folder " + folder, x.largest(folder, 0));
        }
        for (int k : new int[] {-1, 1, 40, LEAST, GREATEST}) {
            Due.none("k " + k, x.largest(0, k));
        }
        Due.is("the one there is", x.largest(0, 0), 0);
    }

    private static void promise26OfNothing() {
        Due.about("promise 26, of nothing");
        RoomGone x = new RoomGone();
        Due.none("an empty store", x.largest(0, 0));
        x.folder(0, 0, false);
        x.file(0, 0, 0);
        Due.is("an empty file", x.largest(0, 0), 0);
        Due.none("an empty folder beside it", x.largest(1, 0));
        x.unlink(0);
        Due.none("it is gone", x.largest(0, 0));
    }

    private static void promise26FortyFiles() {
        Due.about("promise 26, the k-th of 40");
        RoomGone x = new RoomGone();
        for (int file = 0; file < 40; file++) {
            x.file(0, 0, 0);
        }
        x.write(39, 0);
        x.write(39, 1);
        x.write(35, 0);
        Due.is("the first", x.largest(0, 0), 39);
        Due.is("the second", x.largest(0, 1), 35);
        for (int k = 2; k < 37; k++) {
            Due.is("k " + k, x.largest(0, k), k - 2);
        }
        Due.is("k 37", x.largest(0, 37), 36);
        Due.is("k 39", x.largest(0, 39), 38);
        Due.none("k 40", x.largest(0, 40));
        x.unlink(0);
        Due.is("k 2, after one is gone", x.largest(0, 2), 1);
        Due.none("k 39, after one is gone", x.largest(0, 39));
    }

    private static void promise26OfLikeOnesTheLeast() {
        Due.about("promise 26, of like ones the least number");
        RoomGone x = new RoomGone();
        x.folder(0, 0, false);
        Stores.fileIn(x, 1, 1, 2);
        Stores.fileIn(x, 0, 1, 2);
        Stores.fileIn(x, 1, 1, 3);
        Stores.fileIn(x, 0, 1, 2);
        int[] due = {2, 0, 1, 3};
        for (int k = 0; k < due.length; k++) {
            Due.is("k " + k, x.largest(0, k), due[k]);
        }
        Due.is("of folder 1", x.largest(1, 1), 0);
        Due.none("no third in folder 1", x.largest(1, 2));
    }

    private static void promise26TwiceCountsOnce() {
        Due.about("promise 26, a BLOCK twice in it counts once");
        RoomGone x = new RoomGone();
        Stores.fileOf(x, 1);
        Stores.fileOf(x, 2);
        x.share(0, 1, 0, 0);
        x.share(0, 2, 0, 0);
        x.hole(0, 3);
        Due.is("two blocks are more than one at three places", x.largest(0, 0), 1);
        x.copy(1, 0);
        Due.is("a block that two files have counts for both", x.largest(0, 1), 2);
        Due.is("the last", x.largest(0, 2), 0);
        x.link(0, 0);
        Due.none("two names are one file", x.largest(0, 3));
    }

    private static void promise30Others() {
        Due.about("promise 30, NONE for others");
        RoomGone x = new RoomGone();
        for (int what : new int[] {-1, 8, 9, LEAST, GREATEST}) {
            Due.none("count(" + what + ")", x.count(what));
        }
    }

    private static void promise30TheGreatest() {
        Due.about("promise 30, the greatest counts");
        RoomGone x = new RoomGone();
        Stores.goFar(x, 5000);
        for (int folder = 1; folder < 31; folder++) {
            x.folder(0, 0, true);
        }
        for (int file = 0; file < 41; file++) {
            x.file(0, 0, 0);
        }
        for (int name = 40; name < 101; name++) {
            x.link(39, 0);
        }
        Stores.append(x, 39, 61);
        for (int snapshot = 0; snapshot < 9; snapshot++) {
            x.snapshot();
        }
        for (int mark = 0; mark < 21; mark++) {
            x.mark();
        }
        int[] due = {5000, 30, 40, 100, 8, 20, 60, 60};
        for (int what = 0; what < due.length; what++) {
            Due.is("count(" + what + ")", x.count(what), due[what]);
        }
    }

    private static void promise30ThoseThere() {
        Due.about("promise 30, that aren't gone, there, had by FILES or SNAPSHOTS");
        RoomGone x = new RoomGone();
        Stores.fileOf(x, 2);
        Stores.fileOf(x, 3);
        x.link(0, 0);
        x.snapshot();
        x.snapshot();
        x.unlink(0);
        Due.is("a file with a name left isn't gone", x.count(2), 2);
        Due.is("names there", x.count(3), 2);
        x.unlink(1);
        Due.is("files that aren't gone", x.count(2), 1);
        Due.is("blocks had by the snapshots", x.count(6), 5);
        x.drop(0);
        Due.is("snapshots there", x.count(4), 1);
        Due.is("blocks had by the other", x.count(6), 5);
        x.drop(1);
        Due.is("none", x.count(4), 0);
        Due.is("blocks had by the file", x.count(6), 2);
        x.unlink(2);
        for (int what = 2; what < 7; what++) {
            Due.is("nothing: count(" + what + ")", x.count(what), 0);
        }
        Due.is("marks never go", marked().count(5), 1);
    }

    private static RoomGone marked() {
        RoomGone x = new RoomGone();
        x.mark();
        x.drop(0);
        return x;
    }
}
