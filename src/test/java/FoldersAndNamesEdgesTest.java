/** The boundary cases of promises 1 to 9 and of the terms they use, a test for each sentence that names one. */
public final class FoldersAndNamesEdgesTest {
    private static final int LEAST = Integer.MIN_VALUE;
    private static final int GREATEST = Integer.MAX_VALUE;

    public static void main(String[] args) {
        promise1TheRootAlone();
        promise1NothingElse();
        promise1NowIs0();
        promise2From0To500();
        promise2At5000AtMost();
        promise2NoneForAnother();
        promise3NoSuchFolder();
        promise3NoSuchOwner();
        promise3ThirtyCame();
        promise3AsDeepAsCanBe();
        promise4NoneSuch();
        promise4TheRoot();
        promise4OfItsTree();
        promise4WithItsTree();
        promise5Length0();
        promise5NoSuchFolderOrOwner();
        promise5WorthThatCanBe();
        promise5FortyFiles();
        promise5HundredNames();
        promise6NoSuchName();
        promise6NoSuchFolder();
        promise6FortyFiles();
        promise6HundredNames();
        promise6OfNothing();
        promise6OfALongFileInAFullStore();
        promise6AllPlaces();
        promise6ItsChangeIsNow();
        promise7NoSuchFile();
        promise7NoSuchFolder();
        promise7HundredCame();
        promise7SeveralInOneFolder();
        promise8NoneSuch();
        promise8GoneForGood();
        promise8SnapshotKeeps();
        promise9WentOrNoneSuch();
        Due.end();
    }

    private static void promise1TheRootAlone() {
        Due.about("promise 1, the root alone");
        RoomGone x = new RoomGone();
        Due.is("folders", x.count(1), 1);
        for (int who = 0; who < 6; who++) {
            for (int what = 0; what < 3; what++) {
                Due.is("sum(0, " + who + ", " + what + ")", x.sum(0, who, what), 0);
            }
            Due.none("named(0, " + who + ", 0)", x.named(0, who, 0));
        }
        Due.none("folder 1", x.sum(1, 0, 0));
        Due.is("freed(0)", x.freed(0), 0);
        Due.none("plan(0, 1)", x.plan(0, 1));
        Due.none("planned(0, 1, 0)", x.planned(0, 1, 0));
        Due.none("largest(0, 0)", x.largest(0, 0));
    }

    private static void promise1NothingElse() {
        Due.about("promise 1, nothing else is there");
        RoomGone x = new RoomGone();
        for (int what = 2; what < 7; what++) {
            Due.is("count(" + what + ")", x.count(what), 0);
        }
        Due.is("what it holds, at first", x.count(7), 60);
        Due.none("of(0)", x.of(0));
        Due.none("told(0, 0)", x.told(0, 0));
        Due.none("block(0, 0)", x.block(0, 0));
        Due.none("write(0, 0)", x.write(0, 0));
        Due.none("both(0, 0)", x.both(0, 0));
        Due.none("alone(0)", x.alone(0));
        Due.none("drop(0)", x.drop(0));
        Due.is("grew(0, 0, -1)", x.grew(0, 0, -1), LEAST);
        Due.none("full(0)", x.full(0));
        Due.none("full(1)", x.full(1));
    }

    private static void promise1NowIs0() {
        Due.about("promise 1, NOW is 0");
        RoomGone x = new RoomGone();
        Due.is("count(0)", x.count(0), 0);
        Due.is("go(0)", x.go(0), 0);
        x.file(0, 0, 0);
        Due.is("the day of a file", x.told(0, 3), 0);
    }

    private static void promise2From0To500() {
        Due.about("promise 2, 0 .. 500");
        RoomGone x = new RoomGone();
        Due.is("go(0)", x.go(0), 0);
        Due.is("go(500)", x.go(500), 500);
        Due.is("go(0) then", x.go(0), 500);
        Due.is("go(1)", x.go(1), 501);
        Due.is("go(499)", x.go(499), 1000);
        Due.is("NOW", x.count(0), 1000);
    }

    private static void promise2At5000AtMost() {
        Due.about("promise 2, 5000 at most");
        int[] starts = {4499, 4500, 4501, 4998, 4999, 5000};
        for (int start : starts) {
            for (int n : new int[] {0, 1, 2, 499, 500}) {
                RoomGone x = new RoomGone();
                Stores.goFar(x, start);
                int due = start + n > 5000 ? 5000 : start + n;
                Due.is("go(" + n + ") from " + start, x.go(n), due);
                Due.is("NOW after go(" + n + ") from " + start, x.count(0), due);
            }
        }
    }

    private static void promise2NoneForAnother() {
        Due.about("promise 2, NONE for another n");
        for (int start : new int[] {0, 1, 4600, 5000}) {
            RoomGone x = new RoomGone();
            Stores.goFar(x, start);
            for (int n : new int[] {-1, -2, -start - 1, 501, 502, 5000, LEAST, GREATEST}) {
                Due.none("go(" + n + ") from " + start, x.go(n));
            }
            Due.is("NOW is still " + start, x.count(0), start);
        }
    }

    private static void promise3NoSuchFolder() {
        Due.about("promise 3, there is none such");
        RoomGone x = new RoomGone();
        for (int in : new int[] {-1, 1, 2, 29, 30, LEAST, GREATEST}) {
            Due.none("in " + in, x.folder(in, 0, false));
        }
        Due.is("the root is still alone", x.count(1), 1);
        Due.is("in the root", x.folder(0, 0, false), 1);
        Due.is("in the last that came", x.folder(1, 0, false), 2);
        Due.none("in the one to come", x.folder(3, 0, false));
    }

    private static void promise3NoSuchOwner() {
        Due.about("promise 3, no such OWNER");
        RoomGone x = new RoomGone();
        for (int owner : new int[] {-1, 6, 7, LEAST, GREATEST}) {
            Due.none("owner " + owner, x.folder(0, owner, true));
        }
        for (int owner = 0; owner < 6; owner++) {
            Due.is("owner " + owner, x.folder(0, owner, true), owner + 1);
            x.file(owner + 1, 0, 0);
        }
        for (int folder = 1; folder < 7; folder++) {
            for (int who = 0; who < 6; who++) {
                Due.is("folder " + folder + " seen by " + who, x.named(folder, who, 0),
                    who == folder - 1 ? folder - 1 : RoomGone.NONE);
            }
        }
    }

    private static void promise3ThirtyCame() {
        Due.about("promise 3, 30 came");
        RoomGone x = new RoomGone();
        for (int folder = 1; folder < 29; folder++) {
            x.folder(0, 0, false);
        }
        Due.none("29 came: 29 isn't there", x.sum(29, 0, 0));
        Due.is("the 30th, the root among them", x.folder(28, 5, true), 29);
        Due.is("it is there", x.sum(29, 5, 0), 0);
        Due.none("the 31st", x.folder(0, 0, false));
        Due.none("the 31st, in the 30th", x.folder(29, 0, false));
        Due.none("30 isn't there", x.sum(30, 0, 0));
        Due.is("30 are told", x.count(1), 30);
        x.move(29, 0);
        Due.none("after a move, too", x.folder(0, 0, false));
    }

    private static RoomGone deepest() {
        RoomGone x = new RoomGone();
        for (int folder = 1; folder < 30; folder++) {
            x.folder(folder - 1, 0, false);
        }
        return x;
    }

    private static void promise3AsDeepAsCanBe() {
        Due.about("promise 3, 29 folders one in another");
        RoomGone x = deepest();
        Stores.fileIn(x, 29, 1, 2);
        for (int folder = 0; folder < 30; folder++) {
            Due.is("taken of " + folder, x.sum(folder, 5, 0), 2);
            Due.is("freed of " + folder, x.freed(folder), 2);
        }
        Due.is("seen by a stranger", x.named(29, 5, 0), 0);
        Due.no("the first to the deepest", x.move(1, 29));
        Due.yes("the deepest to the root", x.move(29, 0));
        Due.yes("then the first to it", x.move(1, 29));
        Due.is("taken of 28, now the deepest", x.sum(28, 5, 0), 0);
        Due.is("taken of 29", x.sum(29, 5, 0), 2);
    }

    private static void promise4NoneSuch() {
        Due.about("promise 4, there is none such");
        RoomGone x = new RoomGone();
        x.folder(0, 0, false);
        x.folder(0, 0, false);
        for (int wrong : new int[] {-1, 3, 30, LEAST, GREATEST}) {
            Due.no("folder " + wrong, x.move(wrong, 0));
            Due.no("to " + wrong, x.move(1, wrong));
            Due.no("both " + wrong, x.move(wrong, wrong));
        }
        Due.yes("the first to the last", x.move(1, 2));
    }

    private static void promise4TheRoot() {
        Due.about("promise 4, it is the root");
        RoomGone x = new RoomGone();
        Due.no("alone, to itself", x.move(0, 0));
        x.folder(0, 0, false);
        Due.no("to one in it", x.move(0, 1));
        Due.no("to itself", x.move(0, 0));
        Due.yes("another goes to the root, where it is", x.move(1, 0));
    }

    private static void promise4OfItsTree() {
        Due.about("promise 4, the other one is of its TREE");
        RoomGone x = new RoomGone();
        x.folder(0, 0, false);
        x.folder(1, 0, false);
        x.folder(2, 0, false);
        Due.no("itself", x.move(1, 1));
        Due.no("right in it", x.move(1, 2));
        Due.no("in one in it", x.move(1, 3));
        Due.yes("the one that it is in", x.move(3, 2));
        Due.yes("one above that", x.move(3, 1));
        Due.yes("no longer of its tree", x.move(2, 3));
        Due.no("now the other way round", x.move(3, 2));
    }

    private static void promise4WithItsTree() {
        Due.about("promise 4, with its TREE");
        RoomGone x = new RoomGone();
        x.folder(0, 0, false);
        x.folder(0, 1, true);
        x.folder(2, 0, false);
        x.file(3, 0, 0);
        Due.is("files of 1", x.sum(1, 0, 2), 0);
        Due.yes("moved", x.move(2, 1));
        Due.is("files of 1", x.sum(1, 0, 2), 1);
        Due.is("the name is where it was", x.named(3, 1, 0), 0);
        Due.none("a hidden one stays hidden", x.named(3, 0, 0));
        Due.is("its owner stays", x.named(2, 1, 0), RoomGone.NONE);
        Due.is("sums of the moved one", x.sum(2, 5, 2), 1);
    }

    private static void promise5Length0() {
        Due.about("promise 5, a FILE of LENGTH 0");
        RoomGone x = new RoomGone();
        x.go(3);
        Due.is("the name", x.file(0, 4, 0), 0);
        int[] due = {0, 4, 0, 3, 1, 0, 0};
        for (int what = 0; what < due.length; what++) {
            Due.is("told(0, " + what + ")", x.told(0, what), due[what]);
        }
        Due.none("block 0", x.block(0, 0));
        Due.is("no block is had", x.count(6), 0);
        Due.is("it is a file of the root's tree", x.sum(0, 0, 2), 1);
    }

    private static void promise5NoSuchFolderOrOwner() {
        Due.about("promise 5, no such FOLDER or OWNER");
        RoomGone x = new RoomGone();
        for (int in : new int[] {-1, 1, 30, LEAST, GREATEST}) {
            Due.none("in " + in, x.file(in, 0, 0));
        }
        for (int owner : new int[] {-1, 6, LEAST, GREATEST}) {
            Due.none("owner " + owner, x.file(0, owner, 0));
        }
        for (int owner = 0; owner < 6; owner++) {
            Due.is("owner " + owner, x.file(0, owner, 0), owner);
            Due.is("told", x.told(owner, 1), owner);
        }
    }

    private static void promise5WorthThatCanBe() {
        Due.about("promise 5, WORTH can't be");
        RoomGone x = new RoomGone();
        for (int worth : new int[] {-1, 1000, 1001, LEAST, GREATEST}) {
            Due.none("worth " + worth, x.file(0, 0, worth));
        }
        int[] can = {0, 1, 998, 999};
        for (int i = 0; i < can.length; i++) {
            Due.is("worth " + can[i], x.file(0, 0, can[i]), i);
            Due.is("told", x.told(i, 2), can[i]);
        }
    }

    private static RoomGone with39Files() {
        RoomGone x = new RoomGone();
        for (int file = 0; file < 39; file++) {
            x.file(0, 0, 1);
        }
        x.unlink(5);
        x.unlink(6);
        return x;
    }

    private static void promise5FortyFiles() {
        Due.about("promise 5, 40 FILES came");
        RoomGone x = with39Files();
        Due.is("the 40th, those that are gone among them", x.file(0, 0, 1), 39);
        Due.is("its number", x.of(39), 39);
        Due.none("the 41st", x.file(0, 0, 1));
        Due.is("38 are there", x.count(2), 38);
        Due.is("the next name is 40 still", x.link(0, 0), 40);
    }

    /** One file with 99 names, one of which went. */
    private static RoomGone with99Names() {
        RoomGone x = new RoomGone();
        x.file(0, 0, 1);
        for (int name = 1; name < 99; name++) {
            x.link(0, 0);
        }
        x.unlink(98);
        return x;
    }

    private static void promise5HundredNames() {
        Due.about("promise 5, 100 NAMES came");
        RoomGone x = with99Names();
        Due.is("the 100th, one that went among them", x.file(0, 0, 1), 99);
        Due.is("its file", x.of(99), 1);
        Due.none("the 101st", x.file(0, 0, 1));
        Due.is("two files", x.count(2), 2);
        Due.is("99 names are there", x.count(3), 99);
        Due.none("no third file", x.told(2, 0));
    }

    private static void promise6NoSuchName() {
        Due.about("promise 6, no such NAME");
        RoomGone x = new RoomGone();
        Due.none("of no name at all", x.copy(0, 0));
        x.file(0, 0, 0);
        x.link(0, 0);
        for (int name : new int[] {-1, 2, 99, 100, LEAST, GREATEST}) {
            Due.none("name " + name, x.copy(name, 0));
        }
        x.unlink(0);
        Due.none("a name that went", x.copy(0, 0));
        Due.is("the other name of its file", x.copy(1, 0), 2);
        x.unlink(1);
        Due.none("the last that went", x.copy(1, 0));
        Due.is("the copy is there", x.copy(2, 0), 3);
    }

    private static void promise6NoSuchFolder() {
        Due.about("promise 6, no such FOLDER");
        RoomGone x = new RoomGone();
        x.file(0, 0, 0);
        for (int in : new int[] {-1, 1, 30, LEAST, GREATEST}) {
            Due.none("in " + in, x.copy(0, in));
        }
        Due.is("one file", x.count(2), 1);
        Due.is("in the same folder", x.copy(0, 0), 1);
    }

    private static void promise6FortyFiles() {
        Due.about("promise 6, 40 FILES came");
        RoomGone x = with39Files();
        Due.is("the 40th", x.copy(0, 0), 39);
        Due.is("its number", x.of(39), 39);
        Due.none("the 41st", x.copy(0, 0));
        Due.is("no name came by it", x.link(0, 0), 40);
    }

    private static void promise6HundredNames() {
        Due.about("promise 6, 100 NAMES came");
        RoomGone x = with99Names();
        Due.is("the 100th", x.copy(0, 0), 99);
        Due.none("the 101st", x.copy(0, 0));
        Due.is("no file came by it", x.count(2), 2);
    }

    private static void promise6OfNothing() {
        Due.about("promise 6, of a file of length 0");
        RoomGone x = new RoomGone();
        x.file(0, 5, 999);
        Due.is("copy", x.copy(0, 0), 1);
        int[] due = {0, 5, 999, 0, 1, 0, 0};
        for (int what = 0; what < due.length; what++) {
            Due.is("told(1, " + what + ")", x.told(1, what), due[what]);
        }
        Due.is("a write to it", x.write(1, 0), 0);
        Due.is("leaves the other one empty", x.told(0, 0), 0);
    }

    private static void promise6OfALongFileInAFullStore() {
        Due.about("promise 6, all its BLOCKS, though no block is free");
        RoomGone x = new RoomGone();
        Stores.fileOf(x, 60);
        Due.is("60 are had", x.count(6), 60);
        Due.is("copy", x.copy(0, 0), 1);
        Due.is("its length", x.told(1, 0), 60);
        for (int place = 0; place < 60; place++) {
            Due.is("its block at " + place, x.block(1, place), place);
        }
        Due.is("60 are had still", x.count(6), 60);
        Due.is("a name of the copy can be copied", x.copy(1, 0), 2);
        x.unlink(0);
        Due.is("the copies keep them", x.told(2, 5), 60);
    }

    private static void promise6AllPlaces() {
        Due.about("promise 6, all its BLOCKS and HOLES, from the first to the last place");
        RoomGone x = new RoomGone();
        Stores.fileOf(x, 2);
        x.write(0, 0);
        for (int place = 2; place < 59; place++) {
            x.hole(0, place);
        }
        x.share(0, 59, 0, 0);
        x.copy(0, 0);
        for (int place = 0; place < 60; place++) {
            Due.is("at " + place, x.block(1, place), place == 1 ? 1 : place % 59 == 0 ? 2 : -1);
        }
        Due.is("holes", x.told(1, 6), 57);
        x.unlink(0);
        x.cut(1, 59);
        Due.is("place 0 has its block still", x.count(6), 2);
        x.hole(1, 0);
        Due.is("a hole in the copy", x.count(6), 1);
    }

    private static void promise6ItsChangeIsNow() {
        Due.about("promise 6, its change is NOW");
        RoomGone x = new RoomGone();
        x.file(0, 0, 0);
        Stores.goFar(x, 5000);
        x.copy(0, 0);
        Due.is("the copy's", x.told(1, 3), 5000);
        Due.is("the other one's", x.told(0, 3), 0);
        Due.is("the copy has one name", x.told(1, 4), 1);
    }

    private static void promise7NoSuchFile() {
        Due.about("promise 7, no such FILE (not gone)");
        RoomGone x = new RoomGone();
        Due.none("no file at all", x.link(0, 0));
        x.file(0, 0, 0);
        x.file(0, 0, 0);
        for (int file : new int[] {-1, 2, 39, 40, 63, 64, LEAST, GREATEST}) {
            Due.none("file " + file, x.link(file, 0));
        }
        x.unlink(0);
        Due.none("a file that is gone", x.link(0, 0));
        Due.is("the other one", x.link(1, 0), 2);
    }

    private static void promise7NoSuchFolder() {
        Due.about("promise 7, no such FOLDER");
        RoomGone x = new RoomGone();
        x.file(0, 0, 0);
        for (int in : new int[] {-1, 1, 30, LEAST, GREATEST}) {
            Due.none("in " + in, x.link(0, in));
        }
        Due.is("one name", x.told(0, 4), 1);
    }

    private static void promise7HundredCame() {
        Due.about("promise 7, 100 came");
        RoomGone x = with99Names();
        Due.is("the 100th, one that went among them", x.link(0, 0), 99);
        Due.none("the 101st", x.link(0, 0));
        Due.is("names of the file", x.told(0, 4), 99);
        Due.none("there is no name 100", x.of(100));
    }

    private static void promise7SeveralInOneFolder() {
        Due.about("promise 7, several NAMES, also in one FOLDER");
        RoomGone x = new RoomGone();
        x.file(0, 0, 0);
        Due.is("in the same folder", x.link(0, 0), 1);
        Due.is("both are told: the first", x.named(0, 0, 0), 0);
        Due.is("both are told: the second", x.named(0, 0, 1), 1);
        Due.is("the file counts once", x.sum(0, 0, 2), 1);
    }

    private static void promise8NoneSuch() {
        Due.about("promise 8, there is none such");
        RoomGone x = new RoomGone();
        Due.no("no name at all", x.unlink(0));
        x.file(0, 0, 0);
        x.link(0, 0);
        for (int name : new int[] {-1, 2, 99, 100, LEAST, GREATEST}) {
            Due.no("name " + name, x.unlink(name));
        }
        Due.yes("one that is there", x.unlink(0));
        Due.no("one that went", x.unlink(0));
        Due.yes("the last of its file", x.unlink(1));
        Due.no("one whose file is gone", x.unlink(1));
        Due.is("none is there", x.count(3), 0);
    }

    private static void promise8GoneForGood() {
        Due.about("promise 8, a FILE without NAMES is gone, for good");
        RoomGone x = new RoomGone();
        Stores.fileOf(x, 3);
        x.file(0, 0, 0);
        x.unlink(0);
        Due.none("its length", x.told(0, 0));
        Due.none("its block", x.block(0, 0));
        Due.none("no name for it", x.link(0, 0));
        Due.none("no write", x.write(0, 0));
        Due.no("no hole", x.hole(0, 0));
        Due.no("no share to it", x.share(0, 0, 1, 0));
        Due.no("no share from it", x.share(1, 0, 0, 0));
        Due.no("no cut", x.cut(0, 0));
        Due.none("nothing is freed by it", x.both(0, 0));
        Due.is("it isn't the largest", x.largest(0, 0), 1);
        Due.is("its blocks are free", x.count(6), 0);
        Due.is("a file that comes", x.of(x.file(0, 0, 0)), 2);
        Due.none("it is still gone", x.told(0, 0));
    }

    private static void promise8SnapshotKeeps() {
        Due.about("promise 8, a snapshot keeps the blocks of a file that is gone");
        RoomGone x = new RoomGone();
        Stores.fileOf(x, 3);
        x.snapshot();
        x.unlink(0);
        Due.is("had", x.count(6), 3);
        Due.is("alone", x.alone(0), 3);
        Due.is("taken", x.sum(0, 0, 0), 0);
    }

    private static void promise9WentOrNoneSuch() {
        Due.about("promise 9, NONE if it went, or there is none such");
        RoomGone x = new RoomGone();
        Due.none("no name at all", x.of(0));
        x.file(0, 0, 0);
        x.link(0, 0);
        for (int name : new int[] {-1, 2, 99, 100, LEAST, GREATEST}) {
            Due.none("of(" + name + ")", x.of(name));
        }
        x.unlink(0);
        Due.none("one that went", x.of(0));
        Due.is("one that is there", x.of(1), 0);
        x.unlink(1);
        Due.none("the last of its file", x.of(1));
        RoomGone full = with99Names();
        full.file(0, 0, 0);
        Due.is("the 100th", full.of(99), 1);
        Due.none("the 101st", full.of(100));
    }
}
