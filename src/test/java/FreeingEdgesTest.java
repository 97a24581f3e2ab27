/** The boundary cases of promises 22 to 25, a test for each sentence that names one. */
public final class FreeingEdgesTest {
    private static final int LEAST = Integer.MIN_VALUE;
    private static final int GREATEST = Integer.MAX_VALUE;

    public static void main(String[] args) {
        promise22NoSuchFolder();
        promise22TheRootsToo();
        promise22OfNothing();
        promise22NoNameOutside();
        promise22KeptByFilesAndSnapshots();
        promise23NoneSuch();
        promise23OneToldTwice();
        promise23OfNothing();
        promise23WithAllTheirNames();
        promise24NoneSuch();
        promise24From1To60();
        promise24TwelveFiles();
        promise24ItCantBe();
        promise24WorthOf0();
        promise24TheGreatest();
        promise24AtLeast();
        promise25NoneLikewise();
        promise25FilesByNumbers();
        promise25OfLikeOnesTheLeast();
        promise25HighNumbers();
        Due.end();
    }

    private static void promise22NoSuchFolder() {
        Due.about("promise 22, no such FOLDER");
        RoomGone x = new RoomGone();
        Stores.fileOf(x, 1);
        for (int folder : new int[] {-1, 1, 29, 30, LEAST, GREATEST}) {
            Due.none("freed(" + folder + ")", x.freed(folder));
        }
        x.folder(0, 0, false);
        Due.is("one that came", x.freed(1), 0);
    }

    private static void promise22TheRootsToo() {
        Due.about("promise 22, the root's, too");
        RoomGone x = new RoomGone();
        Stores.fileOf(x, 60);
        x.copy(0, 0);
        Due.is("all 60", x.freed(0), 60);
        x.folder(0, 0, true);
        x.link(0, 1);
        Due.is("names in folders in it are inside", x.freed(0), 60);
        Due.is("nothing went", x.count(6), 60);
    }

    private static void promise22OfNothing() {
        Due.about("promise 22, of nothing");
        RoomGone x = new RoomGone();
        Due.is("an empty store", x.freed(0), 0);
        x.folder(0, 0, false);
        x.file(1, 0, 0);
        Due.is("an empty file", x.freed(1), 0);
        x.hole(0, 0);
        Due.is("a hole", x.freed(1), 0);
        Stores.fileIn(x, 0, 1, 2);
        Due.is("what is above doesn't go", x.freed(1), 0);
    }

    private static void promise22NoNameOutside() {
        Due.about("promise 22, FILES that have no NAME outside");
        RoomGone x = new RoomGone();
        x.folder(0, 0, false);
        x.folder(0, 0, false);
        x.folder(1, 0, false);
        Stores.fileIn(x, 3, 1, 2);
        Due.is("one name, inside", x.freed(1), 2);
        x.link(0, 1);
        Due.is("two names, inside", x.freed(1), 2);
        Due.is("one of them is above", x.freed(3), 0);
        x.link(0, 2);
        Due.is("one beside it", x.freed(1), 0);
        x.move(2, 3);
        Due.is("that is moved into it", x.freed(1), 2);
        x.move(2, 0);
        x.unlink(2);
        Due.is("or that went", x.freed(1), 2);
    }

    private static void promise22KeptByFilesAndSnapshots() {
        Due.about("promise 22, no FILE that is kept, and no SNAPSHOT has");
        RoomGone x = new RoomGone();
        x.folder(0, 0, false);
        Stores.fileIn(x, 1, 1, 3);
        Stores.fileIn(x, 1, 1, 1);
        Stores.fileIn(x, 0, 1, 1);
        x.share(1, 1, 0, 0);
        Due.is("shared by two that go", x.freed(1), 4);
        x.share(2, 1, 0, 1);
        Due.is("shared with one that is kept", x.freed(1), 3);
        x.link(1, 0);
        Due.is("one that is kept for its name outside keeps its blocks", x.freed(1), 1);
        x.snapshot();
        Due.is("a snapshot has all", x.freed(1), 0);
        x.write(0, 3);
        Due.is("but for what came later", x.freed(1), 1);
    }

    private static void promise23NoneSuch() {
        Due.about("promise 23, there is none such");
        RoomGone x = new RoomGone();
        Due.none("none at all", x.both(0, 0));
        Stores.fileOf(x, 1);
        Stores.fileOf(x, 1);
        x.unlink(1);
        for (int file : new int[] {-1, 1, 2, 39, 40, 64, LEAST, GREATEST}) {
            Due.none("both(0, " + file + ")", x.both(0, file));
            Due.none("both(" + file + ", 0)", x.both(file, 0));
            Due.none("both(" + file + ", " + file + ")", x.both(file, file));
        }
        Due.is("one that is there", x.both(0, 0), 1);
    }

    private static void promise23OneToldTwice() {
        Due.about("promise 23, or one, told twice");
        RoomGone x = new RoomGone();
        Stores.fileOf(x, 3);
        Stores.fileOf(x, 1);
        x.share(0, 3, 0, 0);
        x.share(1, 1, 0, 1);
        Due.is("one block is the other's, too", x.both(0, 0), 2);
        Due.is("the other", x.both(1, 1), 1);
        Due.is("both", x.both(0, 1), 4);
        Due.is("both, the other way round", x.both(1, 0), 4);
    }

    private static void promise23OfNothing() {
        Due.about("promise 23, of nothing");
        RoomGone x = new RoomGone();
        x.file(0, 0, 0);
        x.file(0, 0, 0);
        Due.is("two empty ones", x.both(0, 1), 0);
        x.write(1, 0);
        Due.is("an empty one and another", x.both(0, 1), 1);
        x.snapshot();
        Due.is("a snapshot has it", x.both(0, 1), 0);
        RoomGone all = new RoomGone();
        Stores.fileOf(all, 59);
        Stores.fileOf(all, 1);
        Due.is("all 60", all.both(0, 1), 60);
    }

    private static void promise23WithAllTheirNames() {
        Due.about("promise 23, FILES go with all their NAMES");
        RoomGone x = new RoomGone();
        x.folder(0, 0, true);
        Stores.fileOf(x, 2);
        x.link(0, 1);
        x.copy(0, 1);
        Due.is("the copy is kept", x.both(0, 0), 0);
        Due.is("the copy goes, too", x.both(0, 1), 2);
        Due.is("nothing went", x.told(0, 4), 2);
    }

    private static void promise24NoneSuch() {
        Due.about("promise 24, there is none such");
        RoomGone x = new RoomGone();
        Stores.fileOf(x, 1);
        for (int folder : new int[] {-1, 1, 30, LEAST, GREATEST}) {
            Due.none("plan(" + folder + ", 1)", x.plan(folder, 1));
            Due.none("planned(" + folder + ", 1, 0)", x.planned(folder, 1, 0));
        }
        Due.is("plan(0, 1)", x.plan(0, 1), 1);
    }

    private static void promise24From1To60() {
        Due.about("promise 24, n isn't 1 .. 60");
        RoomGone x = new RoomGone();
        Stores.fileOf(x, 60);
        for (int n : new int[] {-1, 0, 61, 62, LEAST, GREATEST}) {
            Due.none("n " + n, x.plan(0, n));
            Due.none("planned, n " + n, x.planned(0, n, 0));
        }
        for (int n : new int[] {1, 2, 59, 60}) {
            Due.is("n " + n, x.plan(0, n), 1);
            Due.is("planned, n " + n, x.planned(0, n, 0), 0);
        }
    }

    private static void promise24TwelveFiles() {
        Due.about("promise 24, there are more than 12 FILES");
        RoomGone x = new RoomGone();
        x.folder(0, 0, false);
        for (int file = 0; file < 12; file++) {
            Stores.fileIn(x, 1, file + 1, 1);
        }
        Due.is("12: all go", x.plan(1, 12), 78);
        Due.is("12: the last of the set", x.planned(1, 12, 11), 11);
        Due.is("12: the cheapest", x.plan(1, 1), 1);
        x.link(0, 1);
        x.file(0, 0, 0);
        Due.is("a name more, and a file outside", x.plan(1, 1), 1);
        Due.none("the root's tree has 13", x.plan(0, 1));
        Due.none("nor is one of a set told", x.planned(0, 1, 0));
        x.link(12, 1);
        Due.none("an empty one is the 13th", x.plan(1, 1));
        x.unlink(x.named(0, 0, 0));
        x.unlink(x.named(1, 0, 13));
        Due.is("it is gone", x.plan(0, 12), 78);
    }

    private static void promise24ItCantBe() {
        Due.about("promise 24, it can't be");
        RoomGone x = new RoomGone();
        Due.none("no file", x.plan(0, 1));
        x.folder(0, 0, false);
        Stores.fileIn(x, 1, 5, 3);
        Due.is("all it has", x.plan(1, 3), 5);
        Due.none("one more", x.plan(1, 4));
        Due.none("one more: planned", x.planned(1, 4, 0));
        x.copy(0, 0);
        Due.none("a file outside has all", x.plan(1, 1));
        x.unlink(1);
        x.snapshot();
        Due.none("a snapshot has all", x.plan(1, 1));
        x.write(0, 0);
        Due.is("but for one that came later", x.plan(1, 1), 5);
        Due.none("two can't be", x.plan(1, 2));
        x.cut(0, 0);
        Due.none("an empty file", x.plan(1, 1));
    }

    private static void promise24WorthOf0() {
        Due.about("promise 24, a sum of WORTH of 0 is a plan");
        RoomGone x = new RoomGone();
        Stores.fileIn(x, 0, 0, 1);
        Stores.fileIn(x, 0, 0, 2);
        Due.is("plan", x.plan(0, 1), 0);
        Due.is("plan for all", x.plan(0, 3), 0);
        Due.none("not for more", x.plan(0, 4));
        Due.is("the least as a number", x.planned(0, 1, 0), 0);
        Due.none("alone", x.planned(0, 1, 1));
    }

    private static void promise24TheGreatest() {
        Due.about("promise 24, the greatest sum of WORTH");
        RoomGone x = new RoomGone();
        Stores.fileIn(x, 0, 999, 60);
        for (int file = 1; file < 12; file++) {
            x.file(0, 0, 999);
            x.share(file, 0, 0, 0);
        }
        Due.is("59 by one", x.plan(0, 59), 999);
        Due.is("60 by all 12", x.plan(0, 60), 12 * 999);
        for (int k = 0; k < 12; k++) {
            Due.is("planned " + k, x.planned(0, 60, k), k);
        }
        Due.none("planned 12", x.planned(0, 60, 12));
    }

    private static void promise24AtLeast() {
        Due.about("promise 24, n BLOCKS at least, with the least sum of WORTH");
        RoomGone x = new RoomGone();
        Stores.fileIn(x, 0, 6, 1);
        Stores.fileIn(x, 0, 6, 1);
        Stores.fileIn(x, 0, 11, 5);
        Due.is("1 by one", x.plan(0, 1), 6);
        Due.is("5 blocks for 11 are cheaper than 2 for 12", x.plan(0, 2), 11);
        Due.is("that set", x.planned(0, 2, 0), 2);
        Due.is("6", x.plan(0, 6), 17);
        Due.is("7", x.plan(0, 7), 23);
        RoomGone outside = new RoomGone();
        outside.folder(0, 0, false);
        Stores.fileIn(outside, 1, 8, 2);
        outside.link(0, 0);
        Due.is("a file goes with its names outside", outside.plan(1, 2), 8);
    }

    private static void promise25NoneLikewise() {
        Due.about("promise 25, NONE likewise");
        RoomGone x = new RoomGone();
        Stores.fileIn(x, 0, 1, 2);
        Stores.fileIn(x, 0, 2, 2);
        Stores.fileIn(x, 0, 3, 2);
        for (int k : new int[] {-1, 2, 12, 40, LEAST, GREATEST}) {
            Due.none("k " + k, x.planned(0, 4, k));
        }
        Due.is("k 0", x.planned(0, 4, 0), 0);
        Due.is("k 1", x.planned(0, 4, 1), 1);
        Due.none("n 7 can't be", x.planned(0, 7, 0));
        Due.none("n 0", x.planned(0, 0, 0));
        Due.is("after what is refused", x.planned(0, 6, 2), 2);
    }

    private static void promise25FilesByNumbers() {
        Due.about("promise 25, FILE k (from 0 on, by numbers)");
        RoomGone x = new RoomGone();
        x.folder(0, 0, false);
        for (int file = 0; file < 6; file++) {
            Stores.fileIn(x, file % 2, 6 - file, 1);
        }
        int[] due = {1, 3, 5};
        for (int k = 0; k < due.length; k++) {
            Due.is("of folder 1, k " + k, x.planned(1, 3, k), due[k]);
        }
        Due.none("no more", x.planned(1, 3, 3));
        Due.is("the two cheapest: the first", x.planned(1, 2, 0), 3);
        Due.is("the two cheapest: the second", x.planned(1, 2, 1), 5);
    }

    private static void promise25OfLikeOnesTheLeast() {
        Due.about("promise 25, of like ones the least as a number");
        RoomGone x = new RoomGone();
        Stores.fileIn(x, 0, 1, 1);
        Stores.fileIn(x, 0, 2, 2);
        Stores.fileIn(x, 0, 1, 1);
        Due.is("{1} is 2, {0, 2} is 5", x.planned(0, 2, 0), 1);
        Due.none("one file", x.planned(0, 2, 1));
        Due.is("{0} is 1, {2} is 4", x.planned(0, 1, 0), 0);
        Due.is("{0, 1} is 3, {1, 2} is 6", x.planned(0, 3, 0), 0);
        RoomGone y = new RoomGone();
        Stores.fileIn(y, 0, 1, 1);
        Stores.fileIn(y, 0, 1, 1);
        Stores.fileIn(y, 0, 2, 2);
        Due.is("{0, 1} is 3, {2} is 4: the more files", y.planned(0, 2, 0), 0);
        Due.is("its second", y.planned(0, 2, 1), 1);
        RoomGone z = new RoomGone();
        Stores.fileIn(z, 0, 0, 0);
        Stores.fileIn(z, 0, 1, 1);
        Due.is("{1} is 2, {0, 1} is 3: no file for nothing", z.planned(0, 1, 0), 1);
    }

    private static void promise25HighNumbers() {
        Due.about("promise 25, bits by FILES, beyond the 32nd");
        RoomGone x = new RoomGone();
        x.folder(0, 0, false);
        for (int file = 0; file < 40; file++) {
            x.file(0, 0, 3);
        }
        for (int file : new int[] {3, 33, 38, 39}) {
            x.link(file, 1);
            x.write(file, 0);
        }
        Due.is("{3} is less than {33}", x.planned(1, 1, 0), 3);
        x.hole(3, 0);
        Due.is("{33} is less than {38}", x.planned(1, 1, 0), 33);
        Due.is("{33, 38} is less than {38, 39}", x.planned(1, 2, 0), 33);
        Due.is("its second", x.planned(1, 2, 1), 38);
        Due.is("the 40th file is the third", x.planned(1, 3, 2), 39);
        Due.is("freed by the last two", x.both(38, 39), 2);
        Due.is("freed by 7 and 39", x.both(7, 39), 1);
    }
}
