/** Promises 1 to 9: a new object, days, folders, files and their names. */
public final class FoldersAndNamesTest {
    public static void main(String[] args) {
        promise1NewObject();
        promise2Go();
        promise2GoNearTheLastDay();
        promise2GoStopsAtTheLastDay();
        promise3Folder();
        promise4Move();
        promise5File();
        promise5LimitOfFiles();
        promise6Copy();
        promise6CopyRefused();
        promise7Link();
        promise7LimitOfNames();
        promise8Unlink();
        promise9Of();
        Due.end();
    }

    private static void promise1NewObject() {
        RoomGone x = new RoomGone();
        int[] due = {0, 1, 0, 0, 0, 0, 0, 60};
        for (int what = 0; what < due.length; what++) {
            Due.is("new: count(" + what + ")", x.count(what), due[what]);
        }
        Due.is("NONE", RoomGone.NONE, -1);
        Due.is("new: the root's files", x.sum(0, 0, 2), 0);
        Due.is("new: the root is seen by a stranger", x.sum(0, 5, 0), 0);
        x.go(3);
        x.file(0, 0, 0);
        Due.is("objects have no state in common: NOW", new RoomGone().count(0), 0);
        Due.is("objects have no state in common: files", new RoomGone().count(2), 0);
    }

    private static void promise2Go() {
        RoomGone x = new RoomGone();
        Due.is("go(0)", x.go(0), 0);
        Due.is("go(1)", x.go(1), 1);
        Due.is("go(500)", x.go(500), 501);
        Due.none("go(501)", x.go(501));
        Due.none("go(-1)", x.go(-1));
        Due.none("go(the least int)", x.go(Integer.MIN_VALUE));
        Due.none("go(the greatest int)", x.go(Integer.MAX_VALUE));
        Due.is("NOW after what was refused", x.count(0), 501);
    }

    private static void promise2GoNearTheLastDay() {
        RoomGone x = new RoomGone();
        Stores.goFar(x, 4989);
        Due.is("go(1) from 4989", x.go(1), 4990);
        Due.none("go(501) from 4990", x.go(501));
        Due.none("go(-1) from 4990", x.go(-1));
        Due.is("NOW after what was refused", x.count(0), 4990);
        Due.is("go(10) from 4990", x.go(10), 5000);
        Due.is("go(0) from 5000", x.go(0), 5000);
        Due.is("go(1) from 5000", x.go(1), 5000);
        Due.is("go(500) from 5000", x.go(500), 5000);
        Due.none("go(501) from 5000", x.go(501));
        Due.none("go(-1) from 5000", x.go(-1));
        Due.is("NOW on the last day", x.count(0), 5000);
    }

    private static void promise2GoStopsAtTheLastDay() {
        int[] beyond = {11, 12, 55, 499, 500};
        for (int n : beyond) {
            RoomGone x = new RoomGone();
            Stores.goFar(x, 4990);
            x.file(0, 0, 0);
            Due.is("go(" + n + ") from 4990", x.go(n), 5000);
            Due.is("NOW after go(" + n + ") from 4990", x.count(0), 5000);
            Due.is("the day of what came before", x.told(0, 3), 4990);
            x.write(0, 0);
            Due.is("the day of a change then", x.told(0, 3), 5000);
        }
    }

    private static void promise3Folder() {
        RoomGone x = new RoomGone();
        Due.is("first", x.folder(0, 0, false), 1);
        Due.is("in the first", x.folder(1, 5, true), 2);
        Due.none("in itself to be", x.folder(3, 0, false));
        Due.none("in NONE", x.folder(-1, 0, false));
        Due.none("owner -1", x.folder(0, -1, false));
        Due.none("owner 6", x.folder(0, 6, false));
        Due.is("refused ones don't count", x.count(1), 3);
        for (int i = 3; i < 30; i++) {
            Due.is("folder " + i, x.folder(i - 1, i % 6, false), i);
        }
        Due.none("the 31st", x.folder(0, 0, false));
        Due.is("30 came", x.count(1), 30);
        Due.is("the deepest is of the root's tree", Stores.fileIn(x, 29, 1, 2), 0);
        Due.is("taken", x.sum(0, 5, 0), 2);
    }

    private static void promise4Move() {
        RoomGone x = new RoomGone();
        x.folder(0, 0, false);
        x.folder(1, 0, false);
        x.folder(2, 0, false);
        x.folder(0, 0, false);
        Stores.fileIn(x, 3, 1, 2);
        Due.no("the root", x.move(0, 1));
        Due.no("to itself", x.move(1, 1));
        Due.no("to one in it", x.move(1, 2));
        Due.no("to one deep in it", x.move(1, 3));
        Due.no("no such folder", x.move(5, 0));
        Due.no("no such place", x.move(1, 5));
        Due.no("NONE", x.move(-1, 0));
        Due.no("to NONE", x.move(1, -1));
        Due.is("folder 4 has none of it yet", x.sum(4, 0, 0), 0);
        Due.yes("with its tree", x.move(2, 4));
        Due.is("folder 4 has it", x.sum(4, 0, 0), 2);
        Due.is("folder 1 has lost it", x.sum(1, 0, 0), 0);
        Due.is("folder 3 came along", x.sum(2, 0, 2), 1);
        Due.yes("where it is", x.move(2, 4));
        Due.yes("a lower number into a higher", x.move(1, 3));
        Due.no("the higher is above now", x.move(4, 1));
        Due.yes("back to the root", x.move(1, 0));
    }

    private static void promise5File() {
        RoomGone x = new RoomGone();
        x.go(7);
        Due.is("first", x.file(0, 5, 999), 0);
        int[] due = {0, 5, 999, 7, 1, 0, 0};
        for (int what = 0; what < due.length; what++) {
            Due.is("told(0, " + what + ")", x.told(0, what), due[what]);
        }
        Due.none("no such folder", x.file(1, 0, 0));
        Due.none("in NONE", x.file(-1, 0, 0));
        Due.none("owner 6", x.file(0, 6, 0));
        Due.none("owner -1", x.file(0, -1, 0));
        Due.none("worth 1000", x.file(0, 0, 1000));
        Due.none("worth -1", x.file(0, 0, -1));
        Due.is("refused ones take no number", x.file(0, 0, 0), 1);
        x.link(0, 0);
        Due.is("a name's number isn't its file's", x.file(0, 0, 3), 3);
        Due.is("its file", x.of(3), 2);
    }

    private static void promise5LimitOfFiles() {
        RoomGone x = new RoomGone();
        for (int i = 0; i < 40; i++) {
            Due.is("file " + i, x.file(0, 0, 0), i);
        }
        Due.none("the 41st", x.file(0, 0, 0));
        Due.none("a copy as the 41st", x.copy(0, 0));
        Due.none("there is no file 40", x.told(40, 0));
        Due.none("so it gets no name", x.link(40, 0));
        x.unlink(3);
        Due.none("one that is gone still came", x.file(0, 0, 0));
        Due.is("39 are there", x.count(2), 39);
        Due.is("no name came by what was refused", x.link(0, 0), 40);
    }

    private static void promise6Copy() {
        RoomGone x = new RoomGone();
        x.folder(0, 0, false);
        x.file(0, 4, 77);
        Stores.append(x, 0, 2);
        x.write(0, 0);
        x.hole(0, 2);
        x.share(0, 3, 0, 0);
        x.go(9);
        Due.is("copy", x.copy(0, 1), 1);
        Due.is("its file", x.of(1), 1);
        int[] due = {4, 4, 77, 9, 1, 2, 1};
        for (int what = 0; what < due.length; what++) {
            Due.is("told(1, " + what + ")", x.told(1, what), due[what]);
        }
        for (int place = 0; place < 5; place++) {
            Due.is("the block at " + place, x.block(1, place), x.block(0, place));
        }
        Due.is("the original isn't changed", x.told(0, 3), 0);
        Due.is("no block came", x.count(6), 2);
        x.write(1, 0);
        Due.is("a write to the copy leaves the original", x.block(0, 0), 2);
        x.cut(0, 0);
        Due.is("a cut of the original leaves the copy", x.told(1, 0), 4);
        Due.is("it is in folder 1", x.named(1, 0, 0), 1);
    }

    private static void promise6CopyRefused() {
        RoomGone x = new RoomGone();
        x.file(0, 0, 0);
        Due.none("no such name", x.copy(1, 0));
        Due.none("NONE", x.copy(-1, 0));
        Due.none("no such folder", x.copy(0, 1));
        Due.none("in NONE", x.copy(0, -1));
        x.link(0, 0);
        x.unlink(0);
        Due.none("a name that went", x.copy(0, 0));
        Due.is("its other name", x.copy(1, 0), 2);
        Due.is("two files", x.count(2), 2);
    }

    private static void promise7Link() {
        RoomGone x = new RoomGone();
        x.folder(0, 0, false);
        x.file(0, 0, 0);
        x.go(5);
        Due.is("in another folder", x.link(0, 1), 1);
        Due.is("again in the same", x.link(0, 1), 2);
        Due.is("names", x.told(0, 4), 3);
        Due.is("one file all the same", x.sum(0, 0, 2), 1);
        Due.is("a name is no change of the file", x.told(0, 3), 0);
        Due.none("no such file", x.link(1, 0));
        Due.none("NONE", x.link(-1, 0));
        Due.none("no such folder", x.link(0, 2));
        Due.none("in NONE", x.link(0, -1));
        x.file(0, 0, 0);
        x.unlink(3);
        Due.none("a file that is gone", x.link(1, 0));
        Due.is("three names are there", x.count(3), 3);
    }

    private static void promise7LimitOfNames() {
        RoomGone x = new RoomGone();
        x.file(0, 0, 0);
        for (int i = 1; i < 100; i++) {
            Due.is("name " + i, x.link(0, 0), i);
        }
        Due.none("the 101st", x.link(0, 0));
        Due.none("a file as the 101st", x.file(0, 0, 0));
        Due.none("a copy as the 101st", x.copy(0, 0));
        Due.none("there is no name 100", x.of(100));
        Due.no("so it can't go", x.unlink(100));
        x.unlink(50);
        Due.none("names that went still came", x.link(0, 0));
        Due.is("no file came by what was refused", x.count(2), 1);
        Due.is("99 are there", x.count(3), 99);
    }

    private static void promise8Unlink() {
        RoomGone x = new RoomGone();
        x.file(0, 0, 0);
        x.link(0, 0);
        Stores.append(x, 0, 3);
        Due.yes("one of two", x.unlink(0));
        Due.is("the file is there", x.told(0, 0), 3);
        Due.no("again", x.unlink(0));
        Due.no("no such name", x.unlink(2));
        Due.no("NONE", x.unlink(-1));
        Due.yes("the last", x.unlink(1));
        Due.none("the file is gone", x.told(0, 0));
        Due.none("its blocks are not told", x.block(0, 0));
        Due.none("nothing is written to it", x.write(0, 0));
        Due.is("its blocks are free", x.count(6), 0);
        Due.is("no file is there", x.count(2), 0);
        x.file(0, 0, 0);
        Due.is("its number doesn't come again", x.of(2), 1);
    }

    private static void promise9Of() {
        RoomGone x = new RoomGone();
        x.file(0, 0, 0);
        x.file(0, 0, 0);
        x.link(0, 0);
        Due.is("of(0)", x.of(0), 0);
        Due.is("of(1)", x.of(1), 1);
        Due.is("of(2)", x.of(2), 0);
        Due.none("of(3)", x.of(3));
        Due.none("of(-1)", x.of(-1));
        Due.none("of(100)", x.of(100));
        x.unlink(0);
        Due.none("a name that went", x.of(0));
        Due.is("the other name", x.of(2), 0);
    }
}
