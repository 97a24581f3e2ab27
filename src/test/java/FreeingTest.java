/** Promises 22 to 25: what would be freed, and the set that frees enough at the least worth. */
public final class FreeingTest {
    public static void main(String[] args) {
        promise22Freed();
        promise22NamesOutside();
        promise23Both();
        promise24Plan();
        promise24SharedBlocks();
        promise24Refused();
        promise24LimitOfFiles();
        promise25Planned();
        promise25LeastNumber();
        promise25HighNumbers();
        Due.end();
    }

    private static void promise22Freed() {
        RoomGone x = new RoomGone();
        x.folder(0, 0, false);
        x.folder(1, 0, true);
        Due.is("an empty tree", x.freed(0), 0);
        Stores.fileIn(x, 1, 1, 2);
        Stores.fileIn(x, 2, 1, 3);
        Due.is("the root's", x.freed(0), 5);
        Due.is("with what is below", x.freed(1), 5);
        Due.is("what is below alone", x.freed(2), 3);
        x.share(0, 2, 1, 0);
        Due.is("a block is shared with a file that is kept", x.freed(2), 2);
        Due.is("both go", x.freed(1), 5);
        x.snapshot();
        Due.is("the snapshot has all", x.freed(0), 0);
        x.write(0, 0);
        Due.is("but for what came later", x.freed(0), 1);
        Due.none("no such folder", x.freed(3));
        Due.none("folder NONE", x.freed(-1));
    }

    private static void promise22NamesOutside() {
        RoomGone x = new RoomGone();
        x.folder(0, 0, false);
        x.folder(1, 0, false);
        Stores.fileIn(x, 1, 1, 2);
        Stores.fileIn(x, 1, 1, 4);
        x.link(0, 0);
        Due.is("file 0 has a name outside", x.freed(1), 4);
        x.link(1, 2);
        Due.is("a name deeper is inside", x.freed(1), 4);
        Due.is("file 1 has a name above", x.freed(2), 0);
        Due.is("the root's has all names", x.freed(0), 6);
        x.unlink(2);
        Due.is("the name outside went", x.freed(1), 6);
        Due.is("nothing was changed by asking", x.count(6), 6);
    }

    private static void promise23Both() {
        RoomGone x = new RoomGone();
        Stores.fileOf(x, 2);
        Stores.fileOf(x, 3);
        Stores.fileOf(x, 1);
        x.share(0, 2, 1, 0);
        x.share(2, 1, 1, 1);
        x.link(0, 0);
        Due.is("0 and 1 share a block, 2 has another", x.both(0, 1), 4);
        Due.is("the other way round", x.both(1, 0), 4);
        Due.is("one told twice", x.both(1, 1), 1);
        Due.is("0 and 2", x.both(0, 2), 3);
        x.snapshot();
        Due.is("the snapshot has all", x.both(0, 1), 0);
        Due.none("no such file", x.both(0, 3));
        Due.none("no such first", x.both(3, 0));
        Due.none("NONE", x.both(0, -1));
        Due.none("NONE first", x.both(-1, 0));
        x.unlink(2);
        Due.none("a file that is gone", x.both(0, 2));
    }

    private static void promise24Plan() {
        RoomGone x = new RoomGone();
        x.folder(0, 0, false);
        Stores.fileIn(x, 1, 10, 3);
        Stores.fileIn(x, 1, 4, 1);
        Stores.fileIn(x, 1, 5, 2);
        Stores.fileIn(x, 0, 0, 4);
        Due.is("one block: file 1", x.plan(1, 1), 4);
        Due.is("two: file 2", x.plan(1, 2), 5);
        Due.is("three: files 1 and 2 are cheaper than 0", x.plan(1, 3), 9);
        Due.is("six: all", x.plan(1, 6), 19);
        Due.none("seven", x.plan(1, 7));
        Due.is("the root's has file 3 of worth 0", x.plan(0, 4), 0);
        Due.is("all of the root", x.plan(0, 10), 19);
        x.link(0, 0);
        Due.is("files go with all their names", x.plan(1, 6), 19);
        x.snapshot();
        Due.none("the snapshot has all", x.plan(1, 1));
    }

    private static void promise24SharedBlocks() {
        RoomGone x = new RoomGone();
        x.folder(0, 0, false);
        Stores.fileIn(x, 1, 5, 2);
        Stores.fileIn(x, 1, 7, 0);
        x.share(1, 0, 0, 0);
        x.share(1, 1, 0, 1);
        Due.is("both must go for one block", x.plan(1, 1), 12);
        Stores.fileIn(x, 0, 1, 0);
        x.share(2, 0, 0, 0);
        Due.is("one is kept by a file outside", x.plan(1, 1), 12);
        Due.none("so two can't be freed", x.plan(1, 2));
        Due.is("in the root's tree they can", x.plan(0, 2), 13);
    }

    private static void promise24Refused() {
        RoomGone x = new RoomGone();
        Stores.fileOf(x, 60);
        Due.is("n 60", x.plan(0, 60), 1);
        Due.none("n 61", x.plan(0, 61));
        Due.none("n 0", x.plan(0, 0));
        Due.none("n -1", x.plan(0, -1));
        Due.none("no such folder", x.plan(1, 1));
        Due.none("folder NONE", x.plan(-1, 1));
        x.unlink(0);
        Due.none("no file", x.plan(0, 1));
    }

    private static void promise24LimitOfFiles() {
        RoomGone x = new RoomGone();
        x.folder(0, 0, false);
        for (int i = 0; i < 12; i++) {
            Stores.fileIn(x, 1, 999, 5);
        }
        Due.is("12 files", x.plan(1, 60), 12 * 999);
        x.link(0, 1);
        Due.is("12 files with 13 names", x.plan(1, 56), 12 * 999);
        x.file(1, 0, 0);
        Due.none("13 files", x.plan(1, 1));
        Due.none("planned of 13 files", x.planned(1, 1, 0));
        x.unlink(13);
        Due.is("one of 13 is gone", x.plan(1, 55), 11 * 999);
    }

    private static void promise25Planned() {
        RoomGone x = new RoomGone();
        x.folder(0, 0, false);
        Stores.fileIn(x, 1, 10, 3);
        Stores.fileIn(x, 1, 4, 1);
        Stores.fileIn(x, 1, 5, 2);
        Due.is("for three: files 1 and 2", x.planned(1, 3, 0), 1);
        Due.is("the second", x.planned(1, 3, 1), 2);
        Due.none("no third", x.planned(1, 3, 2));
        Due.none("k -1", x.planned(1, 3, -1));
        Due.none("n 0", x.planned(1, 0, 0));
        Due.none("n 61", x.planned(1, 61, 0));
        Due.none("it can't be", x.planned(1, 7, 0));
        Due.none("no such folder", x.planned(2, 1, 0));
        Due.none("folder NONE", x.planned(-1, 1, 0));
        Due.is("another plan after it", x.planned(1, 1, 0), 1);
    }

    private static void promise25LeastNumber() {
        RoomGone x = new RoomGone();
        Stores.fileIn(x, 0, 2, 2);
        Stores.fileIn(x, 0, 1, 1);
        Stores.fileIn(x, 0, 1, 1);
        Stores.fileIn(x, 0, 0, 0);
        Due.is("{0} is 1, {1, 2} is 6", x.planned(0, 2, 0), 0);
        Due.none("{0} alone, not with file 3 of worth 0", x.planned(0, 2, 1));
        Due.is("{0, 1} is 3, {0, 2} is 5", x.planned(0, 3, 1), 1);
        RoomGone y = new RoomGone();
        Stores.fileIn(y, 0, 1, 1);
        Stores.fileIn(y, 0, 1, 1);
        Stores.fileIn(y, 0, 2, 2);
        Due.is("{0, 1} is 3, {2} is 4", y.planned(0, 2, 0), 0);
        Due.is("its second", y.planned(0, 2, 1), 1);
    }

    private static void promise25HighNumbers() {
        RoomGone x = new RoomGone();
        x.folder(0, 0, false);
        for (int i = 0; i < 38; i++) {
            x.file(0, 0, 0);
        }
        Stores.fileIn(x, 1, 3, 2);
        Stores.fileIn(x, 1, 3, 2);
        Due.is("of like ones the least", x.planned(1, 2, 0), 38);
        Due.is("both", x.planned(1, 3, 1), 39);
        Due.is("freed by two of high numbers", x.both(38, 39), 4);
        Due.is("freed by the last", x.both(39, 39), 2);
    }
}
