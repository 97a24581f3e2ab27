/** The boundary cases of promises 10 to 14, 27 and 29, a test for each sentence that names one. */
public final class ContentEdgesTest {
    private static final int LEAST = Integer.MIN_VALUE;
    private static final int GREATEST = Integer.MAX_VALUE;
    private static final int[] NO_FILES = {-1, 2, 3, 39, 40, 63, 64, LEAST, GREATEST};

    public static void main(String[] args) {
        noFile40();
        promise10NoSuchFile();
        promise10PlacesUpToLength();
        promise10Place59AtMost();
        promise10BlocksFrom0To59();
        promise10NoBlockIsFree();
        promise10SnapshotsHaveAll();
        promise10AsManyAsItHolds();
        promise10NobodyHasItAheadOfIt();
        promise10WhatWasThereGoes();
        promise11NoSuchFile();
        promise11PlacesLikewise();
        promise11InAFullStore();
        promise12NoSuchFiles();
        promise12NoSuchPlaces();
        promise12NoBlockThere();
        promise12OrTheSame();
        promise12InAFullStore();
        promise13From0ToAsItIs();
        promise13OfNothing();
        promise13NoSuchFile();
        promise13WhatWasCutOffStaysAway();
        promise14AHole();
        promise14NoneSuch();
        promise27From1To60();
        promise27MoreAreHad();
        promise29Others();
        promise29NoneSuch();
        promise29TheLeast();
        promise29TheGreatest();
        promise29EachBlockOnce();
        promise29LatestChange();
        Due.end();
    }

    /** File 0 with blocks 0, 1, 2; file 1 is gone. */
    private static RoomGone small() {
        RoomGone x = new RoomGone();
        Stores.fileOf(x, 3);
        x.unlink(x.file(0, 0, 0));
        return x;
    }

    private static RoomGone withHoles(int holes) {
        RoomGone x = new RoomGone();
        x.file(0, 0, 0);
        for (int place = 0; place < holes; place++) {
            x.hole(0, place);
        }
        return x;
    }

    private static void noFile40() {
        Due.about("promises 10 to 14 and 29, FILES are at most 40");
        RoomGone x = new RoomGone();
        for (int file = 0; file < 40; file++) {
            x.file(0, 0, 0);
        }
        Due.is("write to 39", x.write(39, 0), 0);
        Due.none("write to 40", x.write(40, 0));
        Due.yes("hole in 39", x.hole(39, 1));
        Due.no("hole in 40", x.hole(40, 0));
        Due.yes("share from 39", x.share(38, 0, 39, 0));
        Due.no("share from 40", x.share(38, 0, 40, 0));
        Due.no("share to 40", x.share(40, 0, 39, 0));
        Due.yes("cut 39", x.cut(39, 1));
        Due.no("cut 40", x.cut(40, 0));
        Due.is("block of 39", x.block(39, 0), 0);
        Due.none("block of 40", x.block(40, 0));
        Due.is("told of 39", x.told(39, 0), 1);
        Due.none("told of 40", x.told(40, 0));
    }

    private static void promise10NoSuchFile() {
        Due.about("promise 10, no such FILE (not gone)");
        RoomGone x = small();
        for (int file : NO_FILES) {
            Due.none("file " + file, x.write(file, 0));
        }
        Due.none("a file that is gone", x.write(1, 0));
        Due.is("no block came", x.count(6), 3);
    }

    private static void promise10PlacesUpToLength() {
        Due.about("promise 10, place 0 .. LENGTH");
        RoomGone x = new RoomGone();
        x.file(0, 0, 0);
        Due.none("place 1 of an empty file", x.write(0, 1));
        Due.is("place 0 of an empty file", x.write(0, 0), 0);
        Due.none("place 2 of length 1", x.write(0, 2));
        for (int place : new int[] {-1, -2, 59, 60, LEAST, GREATEST}) {
            Due.none("place " + place, x.write(0, place));
        }
        Due.is("place 1 of length 1", x.write(0, 1), 1);
        Due.is("length", x.told(0, 0), 2);
        Due.is("place 0 again", x.write(0, 0), 2);
        Due.is("length is the same", x.told(0, 0), 2);
    }

    private static void promise10Place59AtMost() {
        Due.about("promise 10, 59 at most");
        RoomGone x = withHoles(59);
        Due.is("place 59 as the end", x.write(0, 59), 0);
        Due.is("length 60", x.told(0, 0), 60);
        Due.none("place 60, though it is the end", x.write(0, 60));
        Due.none("place 61", x.write(0, 61));
        Due.is("place 59 over what is there", x.write(0, 59), 1);
        Due.is("place 0", x.write(0, 0), 0);
        Due.is("length 60 still", x.told(0, 0), 60);
    }

    private static void promise10BlocksFrom0To59() {
        Due.about("promise 10, BLOCKS are 0 .. 59");
        RoomGone x = new RoomGone();
        x.file(0, 0, 0);
        x.file(0, 0, 0);
        for (int block = 0; block < 60; block++) {
            int file = block % 2;
            Due.is("block " + block, x.write(file, block / 2), block);
        }
        Due.none("no block 60", x.write(0, 30));
        Due.is("60 are had", x.count(6), 60);
        x.hole(1, 29);
        Due.is("59 is free again", x.write(0, 30), 59);
    }

    private static void promise10NoBlockIsFree() {
        Due.about("promise 10, no BLOCK is free");
        RoomGone x = new RoomGone();
        Stores.fileOf(x, 60);
        x.file(0, 0, 0);
        Due.none("to another file", x.write(1, 0));
        Due.none("over a place, whose block would be free", x.write(0, 0));
        Due.is("the block there stays", x.block(0, 0), 0);
        x.hole(0, 31);
        Due.is("one is free", x.write(1, 0), 31);
        Due.none("none again", x.write(1, 1));
        x.unlink(1);
        Due.is("the file is gone that had it", x.write(0, 31), 31);
    }

    private static void promise10SnapshotsHaveAll() {
        Due.about("promise 10, no BLOCK is free, by snapshots");
        RoomGone x = new RoomGone();
        Stores.fileOf(x, 60);
        x.snapshot();
        x.cut(0, 0);
        Due.none("to an empty file", x.write(0, 0));
        x.drop(0);
        Due.is("the snapshot went", x.write(0, 0), 0);
    }

    private static void promise10AsManyAsItHolds() {
        Due.about("promise 10, as many are had already as the store HOLDS");
        RoomGone x = new RoomGone();
        x.holds(1);
        x.file(0, 0, 0);
        Due.is("the first of one", x.write(0, 0), 0);
        Due.none("at the end", x.write(0, 1));
        Due.none("over it", x.write(0, 0));
        x.holds(2);
        Due.is("the store holds one more", x.write(0, 1), 1);
        Due.none("not two more", x.write(0, 2));
        x.snapshot();
        x.hole(0, 0);
        Due.none("a snapshot has it still", x.write(0, 0));
        x.drop(0);
        Due.is("it went", x.write(0, 0), 0);
        x.share(0, 2, 0, 0);
        x.copy(0, 0);
        x.holds(3);
        Due.is("what is shared counts once", x.write(0, 3), 2);
    }

    private static void promise10NobodyHasItAheadOfIt() {
        Due.about("promise 10, the least that nobody has ahead of it");
        RoomGone x = small();
        Due.is("over block 0, which is had ahead of it", x.write(0, 0), 3);
        Due.is("now 0 is free", x.write(0, 1), 0);
        Due.is("now 1 is free", x.write(0, 2), 1);
        Due.is("2 is the least", x.write(0, 3), 2);
        Due.is("4 is the least", x.write(0, 4), 4);
        x.snapshot();
        x.cut(0, 0);
        Due.is("the snapshot has 0 to 4", x.write(0, 0), 5);
        x.copy(0, 0);
        x.drop(0);
        x.unlink(0);
        Due.is("the copy has 5 alone", x.write(2, 1), 0);
    }

    private static void promise10WhatWasThereGoes() {
        Due.about("promise 10, what was there goes from there");
        RoomGone x = small();
        x.share(0, 3, 0, 0);
        Due.is("over one of two places of block 0", x.write(0, 0), 3);
        Due.is("it is at the other place", x.block(0, 3), 0);
        Due.is("4 are had", x.count(6), 4);
        Due.is("over the other", x.write(0, 3), 4);
        Due.is("0 is free", x.count(6), 4);
        Due.is("0 comes", x.write(0, 4), 0);
    }

    private static void promise11NoSuchFile() {
        Due.about("promise 11, no such FILE");
        RoomGone x = small();
        for (int file : NO_FILES) {
            Due.no("file " + file, x.hole(file, 0));
        }
        Due.no("a file that is gone", x.hole(1, 0));
    }

    private static void promise11PlacesLikewise() {
        Due.about("promise 11, places likewise");
        RoomGone x = new RoomGone();
        x.file(0, 0, 0);
        Due.no("place 1 of an empty file", x.hole(0, 1));
        for (int place : new int[] {-1, 60, LEAST, GREATEST}) {
            Due.no("place " + place, x.hole(0, place));
        }
        for (int place = 0; place < 60; place++) {
            Due.no("beyond the end: " + (place + 1), x.hole(0, place + 1));
            Due.yes("the end: " + place, x.hole(0, place));
        }
        Due.no("place 60, though it is the end", x.hole(0, 60));
        Due.is("holes", x.told(0, 6), 60);
        Due.yes("place 0 again", x.hole(0, 0));
        Due.yes("place 59 again", x.hole(0, 59));
        Due.is("length", x.told(0, 0), 60);
        Due.is("blocks", x.told(0, 5), 0);
    }

    private static void promise11InAFullStore() {
        Due.about("promise 11, a hole needs no block");
        RoomGone x = new RoomGone();
        Stores.fileOf(x, 1);
        x.holds(1);
        Due.yes("at the end", x.hole(0, 1));
        Due.yes("over the only block", x.hole(0, 0));
        Due.is("it is free", x.count(6), 0);
    }

    private static void promise12NoSuchFiles() {
        Due.about("promise 12, no such FILE");
        RoomGone x = small();
        for (int file : NO_FILES) {
            Due.no("file " + file, x.share(file, 0, 0, 0));
            Due.no("other " + file, x.share(0, 0, file, 0));
            Due.no("both " + file, x.share(file, 0, file, 0));
        }
        Due.no("a file that is gone", x.share(1, 0, 0, 0));
        Due.no("an other that is gone", x.share(0, 0, 1, 0));
    }

    private static void promise12NoSuchPlaces() {
        Due.about("promise 12, no such place");
        RoomGone x = withHoles(59);
        x.unlink(x.file(0, 0, 0));
        x.file(0, 0, 0);
        x.write(2, 0);
        Due.no("beyond the end", x.share(2, 2, 2, 0));
        for (int place : new int[] {-1, 3, 59, 60, LEAST, GREATEST}) {
            Due.no("place " + place, x.share(2, place, 2, 0));
        }
        Due.is("length", x.told(2, 0), 1);
        Due.yes("the end", x.share(2, 1, 2, 0));
        Due.yes("place 59 as the end", x.share(0, 59, 2, 0));
        Due.no("place 60, though it is the end", x.share(0, 60, 2, 0));
        Due.yes("place 59 again", x.share(0, 59, 2, 0));
        Due.yes("from place 59", x.share(2, 0, 0, 59));
        Due.no("from place 60", x.share(2, 0, 0, 60));
    }

    private static void promise12NoBlockThere() {
        Due.about("promise 12, no BLOCK there");
        RoomGone x = small();
        x.file(0, 0, 0);
        x.hole(0, 1);
        Due.no("a hole", x.share(2, 0, 0, 1));
        Due.no("the end", x.share(2, 0, 0, 3));
        for (int at : new int[] {-1, 4, 59, 60, LEAST, GREATEST}) {
            Due.no("at " + at, x.share(2, 0, 0, at));
        }
        Due.no("an empty file", x.share(0, 0, 2, 0));
        x.cut(0, 2);
        Due.no("what was cut off", x.share(2, 0, 0, 2));
        Due.is("length", x.told(2, 0), 0);
        Due.yes("a block", x.share(2, 0, 0, 0));
    }

    private static void promise12OrTheSame() {
        Due.about("promise 12, another FILE (or the same)");
        RoomGone x = small();
        Due.yes("to the end", x.share(0, 3, 0, 0));
        Due.is("the block", x.block(0, 3), 0);
        Due.no("its end to its end", x.share(0, 4, 0, 4));
        Due.yes("a place to itself", x.share(0, 0, 0, 0));
        Due.is("the block stays", x.block(0, 0), 0);
        Due.yes("over another place", x.share(0, 1, 0, 2));
        Due.is("what was there went", x.count(6), 2);
        Due.is("blocks, each once", x.told(0, 5), 2);
        Due.is("length", x.told(0, 0), 4);
    }

    private static void promise12InAFullStore() {
        Due.about("promise 12, sharing needs no free block");
        RoomGone x = new RoomGone();
        Stores.fileOf(x, 60);
        x.file(0, 0, 0);
        Due.yes("the first", x.share(1, 0, 0, 0));
        Due.yes("the last", x.share(1, 1, 0, 59));
        Due.is("block 59", x.block(1, 1), 59);
        Due.is("60 are had", x.count(6), 60);
    }

    private static void promise13From0ToAsItIs() {
        Due.about("promise 13, 0 .. as it is");
        RoomGone x = small();
        for (int length : new int[] {-1, 4, 59, 60, 61, LEAST, GREATEST}) {
            Due.no("to " + length, x.cut(0, length));
        }
        Due.is("length", x.told(0, 0), 3);
        Due.yes("as it is", x.cut(0, 3));
        Due.is("all are there", x.told(0, 5), 3);
        Due.yes("one less", x.cut(0, 2));
        Due.no("back to what it was", x.cut(0, 3));
        Due.yes("to 0", x.cut(0, 0));
        Due.is("nothing is had", x.count(6), 0);
        RoomGone full = withHoles(60);
        Due.no("60 to 61", full.cut(0, 61));
        Due.yes("60 to 60", full.cut(0, 60));
        Due.yes("60 to 59", full.cut(0, 59));
        Due.is("holes", full.told(0, 6), 59);
    }

    private static void promise13OfNothing() {
        Due.about("promise 13, a file of length 0");
        RoomGone x = new RoomGone();
        x.file(0, 0, 0);
        Due.no("to 1", x.cut(0, 1));
        Due.no("to -1", x.cut(0, -1));
        Due.yes("to 0", x.cut(0, 0));
        Due.is("it isn't gone", x.told(0, 4), 1);
    }

    private static void promise13NoSuchFile() {
        Due.about("promise 13, it can't be: no such FILE");
        RoomGone x = small();
        for (int file : NO_FILES) {
            Due.no("file " + file, x.cut(file, 0));
        }
        Due.no("a file that is gone", x.cut(1, 0));
        Due.no("a gone file to NONE", x.cut(1, -1));
    }

    private static void promise13WhatWasCutOffStaysAway() {
        Due.about("promise 13, what was cut off is gone");
        RoomGone x = small();
        x.cut(0, 1);
        Due.no("there is no place 2", x.hole(0, 2));
        x.hole(0, 1);
        Due.none("place 2 is beyond the end", x.block(0, 2));
        x.hole(0, 2);
        Due.none("place 2 is a hole", x.block(0, 2));
        Due.is("blocks", x.told(0, 5), 1);
        Due.is("1 is free", x.write(0, 3), 1);
    }

    private static void promise14AHole() {
        Due.about("promise 14, NONE if it is a HOLE");
        RoomGone x = small();
        x.hole(0, 1);
        x.hole(0, 3);
        Due.is("before it", x.block(0, 0), 0);
        Due.none("within", x.block(0, 1));
        Due.is("behind it", x.block(0, 2), 2);
        Due.none("at the end", x.block(0, 3));
    }

    private static void promise14NoneSuch() {
        Due.about("promise 14, there is none such");
        RoomGone x = small();
        for (int file : NO_FILES) {
            Due.none("file " + file, x.block(file, 0));
        }
        Due.none("a file that is gone", x.block(1, 0));
        for (int place : new int[] {-1, 3, 4, 59, 60, LEAST, GREATEST}) {
            Due.none("place " + place, x.block(0, place));
        }
        x.file(0, 0, 0);
        Due.none("an empty file", x.block(2, 0));
        RoomGone full = new RoomGone();
        Stores.fileOf(full, 60);
        Due.is("place 59", full.block(0, 59), 59);
        Due.none("place 60", full.block(0, 60));
    }

    private static void promise27From1To60() {
        Due.about("promise 27, it can't be");
        RoomGone x = new RoomGone();
        for (int blocks : new int[] {-1, 0, 61, 62, LEAST, GREATEST}) {
            Due.no("holds(" + blocks + ")", x.holds(blocks));
        }
        Due.is("60 still", x.count(7), 60);
        for (int blocks : new int[] {1, 2, 59, 60, 60}) {
            Due.yes("holds(" + blocks + ")", x.holds(blocks));
            Due.is("told", x.count(7), blocks);
        }
    }

    private static void promise27MoreAreHad() {
        Due.about("promise 27, more are had");
        RoomGone x = new RoomGone();
        Stores.fileOf(x, 4);
        x.copy(0, 0);
        Due.no("4 are had, shared: 3", x.holds(3));
        Due.yes("as many", x.holds(4));
        x.snapshot();
        x.unlink(0);
        x.cut(1, 1);
        Due.no("one by a file, 4 by a snapshot: 3", x.holds(3));
        Due.yes("as many", x.holds(4));
        x.drop(0);
        Due.yes("one is had", x.holds(1));
        x.unlink(1);
        Due.no("0 can't be, though none is had", x.holds(0));
        x.holds(60);
        Stores.fileOf(x, 60);
        Due.no("60 are had: 59", x.holds(59));
        Due.yes("60 are had: 60", x.holds(60));
    }

    private static void promise29Others() {
        Due.about("promise 29, NONE for others");
        RoomGone x = small();
        for (int what : new int[] {-1, 7, 8, LEAST, GREATEST}) {
            Due.none("told(0, " + what + ")", x.told(0, what));
        }
    }

    private static void promise29NoneSuch() {
        Due.about("promise 29, there is none such (not gone)");
        RoomGone x = small();
        for (int what = 0; what < 7; what++) {
            for (int file : NO_FILES) {
                Due.none("told(" + file + ", " + what + ")", x.told(file, what));
            }
            Due.none("a file that is gone, " + what, x.told(1, what));
        }
    }

    private static void promise29TheLeast() {
        Due.about("promise 29, the least that can be told");
        RoomGone x = new RoomGone();
        x.file(0, 0, 0);
        int[] due = {0, 0, 0, 0, 1, 0, 0};
        for (int what = 0; what < due.length; what++) {
            Due.is("told(0, " + what + ")", x.told(0, what), due[what]);
        }
    }

    private static void promise29TheGreatest() {
        Due.about("promise 29, the greatest that can be told");
        RoomGone x = new RoomGone();
        Stores.goFar(x, 5000);
        x.file(0, 5, 999);
        Stores.append(x, 0, 60);
        for (int name = 1; name < 100; name++) {
            x.link(0, 0);
        }
        int[] due = {60, 5, 999, 5000, 100, 60, 0};
        for (int what = 0; what < due.length; what++) {
            Due.is("told(0, " + what + ")", x.told(0, what), due[what]);
        }
        for (int place = 0; place < 60; place++) {
            x.hole(0, place);
        }
        Due.is("blocks", x.told(0, 5), 0);
        Due.is("holes", x.told(0, 6), 60);
    }

    private static void promise29EachBlockOnce() {
        Due.about("promise 29, BLOCKS (each once)");
        RoomGone x = new RoomGone();
        Stores.fileOf(x, 1);
        for (int place = 1; place < 60; place++) {
            x.share(0, place, 0, 0);
        }
        Due.is("length", x.told(0, 0), 60);
        Due.is("blocks", x.told(0, 5), 1);
        Due.is("holes", x.told(0, 6), 0);
        x.hole(0, 0);
        Due.is("at 59 places still", x.told(0, 5), 1);
        Due.is("a hole", x.told(0, 6), 1);
    }

    private static void promise29LatestChange() {
        Due.about("promise 29, DAY of its change");
        RoomGone x = small();
        x.file(0, 0, 0);
        x.go(1);
        x.write(0, 0);
        Due.is("a write over a place", x.told(0, 3), 1);
        x.go(1);
        x.share(2, 0, 0, 0);
        Due.is("the giver isn't changed", x.told(0, 3), 1);
        Due.is("the taker is", x.told(2, 3), 2);
        x.go(1);
        x.copy(0, 0);
        x.snapshot();
        x.mark();
        Due.is("a copy is no change of the file", x.told(0, 3), 1);
        x.go(1);
        Due.none("refused", x.write(0, 4));
        Due.no("refused", x.cut(0, 4));
        Due.is("what is refused is no change", x.told(0, 3), 1);
        x.cut(0, 2);
        Due.is("a cut", x.told(0, 3), 4);
        Due.is("the day of the other stays", x.told(2, 3), 2);
    }
}
