/** Promises 10 to 14, 27 and 29: what files have, and what the store holds. */
public final class ContentTest {
    public static void main(String[] args) {
        promise10Write();
        promise10TakesTheLeastFreeBlock();
        promise10PlaceIsChecked();
        promise10LimitOfStore();
        promise11Hole();
        promise12Share();
        promise12ShareRefused();
        promise13Cut();
        promise14Block();
        promise27Holds();
        promise29Told();
        promise29DayOfChange();
        Due.end();
    }

    private static void promise10Write() {
        RoomGone x = new RoomGone();
        x.file(0, 0, 0);
        Due.is("at the end", x.write(0, 0), 0);
        Due.is("at the end", x.write(0, 1), 1);
        Due.is("over the first: its block still counts", x.write(0, 0), 2);
        Due.is("what was there went", x.count(6), 2);
        Due.is("length", x.told(0, 0), 2);
        Due.is("the least that is free", x.write(0, 2), 0);
        x.hole(0, 1);
        Due.is("over a hole", x.write(0, 1), 1);
        Due.is("no hole is left", x.told(0, 6), 0);
    }

    private static void promise10TakesTheLeastFreeBlock() {
        RoomGone x = new RoomGone();
        Stores.fileOf(x, 3);
        x.copy(0, 0);
        x.cut(0, 0);
        Due.is("the copy has 0, 1, 2", x.write(0, 0), 3);
        x.snapshot();
        x.unlink(1);
        x.cut(0, 0);
        Due.is("the snapshot has 0, 1, 2, 3", x.write(0, 0), 4);
        x.drop(0);
        Due.is("the snapshot went", x.write(0, 1), 0);
    }

    private static void promise10PlaceIsChecked() {
        RoomGone x = new RoomGone();
        x.file(0, 0, 0);
        Due.none("no such file", x.write(1, 0));
        Due.none("file NONE", x.write(-1, 0));
        Due.none("beyond the end", x.write(0, 1));
        Due.none("place -1", x.write(0, -1));
        for (int place = 0; place < 59; place++) {
            x.hole(0, place);
        }
        Due.is("place 59", x.write(0, 59), 0);
        Due.none("place 60", x.write(0, 60));
        Due.is("length 60", x.told(0, 0), 60);
        Due.is("over place 59", x.write(0, 59), 1);
    }

    private static void promise10LimitOfStore() {
        RoomGone x = new RoomGone();
        x.holds(3);
        Stores.fileOf(x, 2);
        x.snapshot();
        x.cut(0, 0);
        Due.is("the third of three", x.write(0, 0), 2);
        Due.none("as many are had as the store holds", x.write(0, 1));
        Due.none("also over a place", x.write(0, 0));
        Due.is("refused: the block is there", x.block(0, 0), 2);
        Due.is("refused: the length", x.told(0, 0), 1);
        x.holds(60);
        Stores.append(x, 0, 57);
        Due.is("60 are had", x.count(6), 60);
        Due.none("no block is free", x.write(0, 0));
    }

    private static void promise11Hole() {
        RoomGone x = new RoomGone();
        Stores.fileOf(x, 2);
        Due.yes("at the end", x.hole(0, 2));
        Due.is("length", x.told(0, 0), 3);
        Due.yes("over a block", x.hole(0, 0));
        Due.is("the block went", x.count(6), 1);
        Due.none("no block there", x.block(0, 0));
        Due.yes("over a hole", x.hole(0, 0));
        Due.is("holes", x.told(0, 6), 2);
        Due.no("beyond the end", x.hole(0, 4));
        Due.no("place -1", x.hole(0, -1));
        Due.no("no such file", x.hole(1, 0));
        Due.no("file NONE", x.hole(-1, 0));
        for (int place = 3; place < 60; place++) {
            Due.yes("place " + place, x.hole(0, place));
        }
        Due.no("place 60", x.hole(0, 60));
        Due.yes("place 59 again", x.hole(0, 59));
        Due.is("length 60", x.told(0, 0), 60);
        x.unlink(0);
        Due.no("a file that is gone", x.hole(0, 0));
    }

    private static void promise12Share() {
        RoomGone x = new RoomGone();
        Stores.fileOf(x, 3);
        x.file(0, 0, 0);
        Due.yes("at the end", x.share(1, 0, 0, 2));
        Due.is("the block", x.block(1, 0), 2);
        Due.yes("over a place", x.share(1, 0, 0, 1));
        Due.is("the block", x.block(1, 0), 1);
        Due.is("length", x.told(1, 0), 1);
        Due.yes("from the same file", x.share(0, 3, 0, 0));
        Due.is("a block twice counts once", x.told(0, 5), 3);
        Due.yes("onto itself", x.share(0, 1, 0, 1));
        Due.is("the same", x.block(0, 1), 1);
        Due.is("the giver keeps its length", x.told(0, 0), 4);
        Due.is("no block came", x.count(6), 3);
        x.holds(3);
        Due.yes("a full store shares", x.share(1, 1, 0, 0));
    }

    private static void promise12ShareRefused() {
        RoomGone x = new RoomGone();
        Stores.fileOf(x, 1);
        x.hole(0, 1);
        x.file(0, 0, 0);
        Due.no("a hole there", x.share(1, 0, 0, 1));
        Due.no("nothing there", x.share(1, 0, 0, 2));
        Due.no("at -1", x.share(1, 0, 0, -1));
        Due.no("beyond the end", x.share(1, 1, 0, 0));
        Due.no("place -1", x.share(1, -1, 0, 0));
        Due.no("no such file", x.share(2, 0, 0, 0));
        Due.no("no such other", x.share(1, 0, 2, 0));
        Due.no("file NONE", x.share(-1, 0, 0, 0));
        Due.no("other NONE", x.share(1, 0, -1, 0));
        Due.is("refused: the length", x.told(1, 0), 0);
        for (int place = 0; place < 60; place++) {
            x.hole(1, place);
        }
        Due.no("place 60", x.share(1, 60, 0, 0));
        Due.yes("place 59", x.share(1, 59, 0, 0));
        x.unlink(0);
        Due.no("an other that is gone", x.share(1, 0, 0, 0));
        Due.no("a file that is gone", x.share(0, 0, 1, 59));
    }

    private static void promise13Cut() {
        RoomGone x = new RoomGone();
        Stores.fileOf(x, 4);
        Due.no("longer", x.cut(0, 5));
        Due.no("length -1", x.cut(0, -1));
        Due.no("no such file", x.cut(1, 0));
        Due.no("file NONE", x.cut(-1, 0));
        Due.yes("as it is", x.cut(0, 4));
        Due.is("nothing went", x.count(6), 4);
        Due.yes("shorter", x.cut(0, 1));
        Due.is("length", x.told(0, 0), 1);
        Due.none("what was cut off isn't told", x.block(0, 1));
        Due.is("blocks went", x.count(6), 1);
        Due.yes("to nothing", x.cut(0, 0));
        Due.is("all went", x.count(6), 0);
        Due.is("it is there all the same", x.told(0, 4), 1);
        x.unlink(0);
        Due.no("a file that is gone", x.cut(0, 0));
    }

    private static void promise14Block() {
        RoomGone x = new RoomGone();
        Stores.fileOf(x, 2);
        x.hole(0, 1);
        Due.is("a block", x.block(0, 0), 0);
        Due.none("a hole", x.block(0, 1));
        Due.none("the end", x.block(0, 2));
        Due.none("place -1", x.block(0, -1));
        Due.none("place 60", x.block(0, 60));
        Due.none("no such file", x.block(1, 0));
        Due.none("file NONE", x.block(-1, 0));
        Due.none("file 40", x.block(40, 0));
    }

    private static void promise27Holds() {
        RoomGone x = new RoomGone();
        Due.no("0", x.holds(0));
        Due.no("61", x.holds(61));
        Due.no("-1", x.holds(-1));
        Due.is("refused", x.count(7), 60);
        Due.yes("1", x.holds(1));
        Due.yes("60", x.holds(60));
        Stores.fileOf(x, 3);
        x.snapshot();
        x.cut(0, 1);
        Due.no("more are had by files and snapshots", x.holds(2));
        Due.is("refused", x.count(7), 60);
        Due.yes("as many are had", x.holds(3));
        Due.is("told", x.count(7), 3);
        x.drop(0);
        Due.yes("the snapshot went", x.holds(1));
    }

    private static void promise29Told() {
        RoomGone x = new RoomGone();
        x.file(0, 3, 42);
        x.link(0, 0);
        Stores.append(x, 0, 2);
        x.share(0, 2, 0, 0);
        x.hole(0, 3);
        int[] due = {4, 3, 42, 0, 2, 2, 1};
        for (int what = 0; what < due.length; what++) {
            Due.is("told(0, " + what + ")", x.told(0, what), due[what]);
        }
        Due.none("what 7", x.told(0, 7));
        Due.none("what -1", x.told(0, -1));
        Due.none("no such file", x.told(1, 0));
        Due.none("file NONE", x.told(-1, 0));
        x.unlink(0);
        Due.is("one name went", x.told(0, 4), 1);
        x.unlink(1);
        for (int what = 0; what < due.length; what++) {
            Due.none("gone: told(0, " + what + ")", x.told(0, what));
        }
    }

    private static void promise29DayOfChange() {
        RoomGone x = new RoomGone();
        x.go(1);
        x.file(0, 0, 0);
        x.file(0, 0, 0);
        Due.is("came", x.told(0, 3), 1);
        x.go(1);
        x.write(0, 0);
        Due.is("written", x.told(0, 3), 2);
        x.go(1);
        x.hole(0, 1);
        Due.is("a hole", x.told(0, 3), 3);
        x.go(1);
        x.share(1, 0, 0, 0);
        Due.is("shared to", x.told(1, 3), 4);
        Due.is("shared from", x.told(0, 3), 3);
        x.go(1);
        x.cut(0, 1);
        Due.is("cut", x.told(0, 3), 5);
        x.go(1);
        x.write(0, 2);
        x.hole(0, 2);
        x.share(0, 2, 0, 0);
        x.cut(0, 2);
        Due.is("refused calls are no change", x.told(0, 3), 5);
    }
}
