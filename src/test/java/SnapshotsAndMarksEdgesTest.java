/** The boundary cases of promises 17 to 21 and 28, a test for each sentence that names one. */
public final class SnapshotsAndMarksEdgesTest {
    private static final int LEAST = Integer.MIN_VALUE;
    private static final int GREATEST = Integer.MAX_VALUE;
    private static final int[] NO_SNAPSHOTS = {-1, 2, 7, 8, 9, LEAST, GREATEST};

    public static void main(String[] args) {
        promise17EightAreThere();
        promise17TheLeastThatIsFree();
        promise17OfNothing();
        promise17WhatFilesHave();
        promise18NoneSuch();
        promise18FreeByThat();
        promise18All60();
        promise19NoneSuch();
        promise19NoFileAndNoOther();
        promise19All60();
        promise20TwentyCame();
        promise20OnOneDay();
        promise21NoSuchFolderOrMark();
        promise21ToNow();
        promise21WasntThere();
        promise21TheGreatest();
        promise21AsItWas();
        promise28NoneForOthers();
        promise28NoTwoSuchMarks();
        promise28SideBySide();
        promise28IsntAbove0();
        promise28CutDownAndUp();
        promise28WhatLacksCutUp();
        promise28NothingLacks();
        promise28TheTwentieth();
        promise28FromNow();
        Due.end();
    }

    private static void promise17EightAreThere() {
        Due.about("promise 17, NONE if 8 are there");
        RoomGone x = new RoomGone();
        for (int number = 0; number < 8; number++) {
            Due.is("snapshot", x.snapshot(), number);
        }
        Due.none("the 9th", x.snapshot());
        Due.none("once more", x.snapshot());
        Due.is("8 are there", x.count(4), 8);
        x.drop(7);
        Due.is("7 is free", x.snapshot(), 7);
        Due.none("8 are there again", x.snapshot());
    }

    private static void promise17TheLeastThatIsFree() {
        Due.about("promise 17, the least that is free");
        RoomGone x = new RoomGone();
        for (int number = 0; number < 5; number++) {
            x.snapshot();
        }
        x.drop(3);
        x.drop(0);
        Due.is("0 and 3 are free", x.snapshot(), 0);
        Due.is("3 is free", x.snapshot(), 3);
        Due.is("5 is free", x.snapshot(), 5);
        for (int number = 0; number < 6; number++) {
            x.drop(number);
        }
        Due.is("all went", x.snapshot(), 0);
    }

    private static void promise17OfNothing() {
        Due.about("promise 17, of a store without blocks");
        RoomGone x = new RoomGone();
        Due.is("the number", x.snapshot(), 0);
        Due.is("it is there", x.count(4), 1);
        Due.is("alone", x.alone(0), 0);
        Stores.fileOf(x, 2);
        Due.is("it holds nothing that came later", x.freed(0), 2);
        Due.is("dropped", x.drop(0), 0);
    }

    private static void promise17WhatFilesHave() {
        Due.about("promise 17, all BLOCKS that FILES have when it is made");
        RoomGone x = new RoomGone();
        Stores.fileOf(x, 2);
        x.snapshot();
        x.write(0, 0);
        x.snapshot();
        Due.is("0 has block 0, 1 hasn't: it was no file's any more", x.drop(0), 1);
        x.unlink(0);
        Due.is("1 has the other two", x.alone(1), 2);
        RoomGone reused = new RoomGone();
        Stores.fileOf(reused, 2);
        reused.snapshot();
        reused.drop(0);
        reused.cut(0, 0);
        reused.snapshot();
        Due.is("a number that comes again holds nothing of old", reused.count(6), 0);
    }

    private static void promise18NoneSuch() {
        Due.about("promise 18, there is none such");
        RoomGone x = new RoomGone();
        Due.none("none at all", x.drop(0));
        x.snapshot();
        x.snapshot();
        for (int snapshot : NO_SNAPSHOTS) {
            Due.none("drop(" + snapshot + ")", x.drop(snapshot));
        }
        Due.is("both are there", x.count(4), 2);
        Due.is("the first", x.drop(0), 0);
        Due.none("it went", x.drop(0));
        Due.is("the last", x.drop(1), 0);
        Due.none("it went", x.drop(1));
    }

    private static void promise18FreeByThat() {
        Due.about("promise 18, how many BLOCKS are free by that");
        RoomGone x = new RoomGone();
        Stores.fileOf(x, 4);
        x.snapshot();
        x.snapshot();
        x.cut(0, 3);
        Due.is("the other has all", x.drop(0), 0);
        x.snapshot();
        x.cut(0, 1);
        Due.is("0 has two of these, the file one", x.drop(1), 1);
        Due.is("the file has one", x.drop(0), 2);
        Due.is("had", x.count(6), 1);
    }

    private static void promise18All60() {
        Due.about("promise 18, all 60 are free by that");
        RoomGone x = new RoomGone();
        Stores.fileOf(x, 60);
        x.snapshot();
        x.unlink(0);
        Due.is("drop", x.drop(0), 60);
        Due.is("had", x.count(6), 0);
        Stores.fileOf(x, 60);
        Due.is("all can be written", x.told(1, 5), 60);
    }

    private static void promise19NoneSuch() {
        Due.about("promise 19, there is none such");
        RoomGone x = new RoomGone();
        Due.none("none at all", x.alone(0));
        x.snapshot();
        x.snapshot();
        for (int snapshot : NO_SNAPSHOTS) {
            Due.none("alone(" + snapshot + ")", x.alone(snapshot));
        }
        x.drop(0);
        Due.none("it went", x.alone(0));
        Due.is("the other", x.alone(1), 0);
    }

    private static void promise19NoFileAndNoOther() {
        Due.about("promise 19, those that no FILE and no other SNAPSHOT has");
        RoomGone x = new RoomGone();
        Stores.fileOf(x, 3);
        x.copy(0, 0);
        x.snapshot();
        x.unlink(0);
        Due.is("the copy has all", x.alone(0), 0);
        x.hole(1, 0);
        Due.is("one that no file has", x.alone(0), 1);
        x.snapshot();
        x.hole(1, 1);
        Due.is("block 1 is held by both", x.alone(0), 1);
        Due.is("and isn't 1's alone", x.alone(1), 0);
        x.drop(0);
        Due.is("now it is", x.alone(1), 1);
        x.unlink(1);
        Due.is("the file is gone", x.alone(1), 2);
    }

    private static void promise19All60() {
        Due.about("promise 19, all 60");
        RoomGone x = new RoomGone();
        Stores.fileOf(x, 60);
        x.snapshot();
        x.cut(0, 0);
        Due.is("alone", x.alone(0), 60);
        x.snapshot();
        Due.is("one of no file holds nothing", x.alone(0), 60);
    }

    private static void promise20TwentyCame() {
        Due.about("promise 20, NONE if 20 came");
        RoomGone x = new RoomGone();
        x.file(0, 0, 0);
        for (int mark = 0; mark < 20; mark++) {
            Due.is("mark", x.mark(), mark);
            x.write(0, mark);
            x.go(1);
        }
        Due.none("the 21st", x.mark());
        Due.none("once more", x.mark());
        Due.is("20", x.count(5), 20);
        Due.is("the last is as it was", x.grew(0, 19, -1), 1);
        Due.is("the first is as it was", x.grew(0, 0, 19), 19);
        Due.is("there is no mark 20", x.grew(0, 20, -1), LEAST);
    }

    private static void promise20OnOneDay() {
        Due.about("promise 20, several on one DAY");
        RoomGone x = new RoomGone();
        Due.is("of an empty store", x.mark(), 0);
        Stores.fileOf(x, 2);
        Due.is("on the same day", x.mark(), 1);
        Due.is("grew", x.grew(0, 0, 1), 2);
        Stores.goFar(x, 5000);
        Due.is("on the last day", x.mark(), 2);
        Due.is("didn't grow", x.grew(0, 1, 2), 0);
    }

    private static void promise21NoSuchFolderOrMark() {
        Due.about("promise 21, no such FOLDER or MARK");
        RoomGone x = new RoomGone();
        Due.is("no mark at all", x.grew(0, 0, -1), LEAST);
        x.mark();
        x.mark();
        for (int wrong : new int[] {-2, 2, 19, 20, 30, LEAST, GREATEST}) {
            Due.is("folder " + wrong, x.grew(wrong, 0, 1), LEAST);
            Due.is("from " + wrong, x.grew(0, wrong, 1), LEAST);
            Due.is("to " + wrong, x.grew(0, 0, wrong), LEAST);
            Due.is("folder " + wrong + ", to NOW", x.grew(wrong, 0, -1), LEAST);
            Due.is("from " + wrong + ", to NOW", x.grew(0, wrong, -1), LEAST);
        }
        Due.is("folder NONE", x.grew(-1, 0, 1), LEAST);
        Due.is("the one to come", x.grew(1, 0, 1), LEAST);
        Due.is("from NONE", x.grew(0, -1, 1), LEAST);
        Due.is("from NONE to NOW", x.grew(0, -1, -1), LEAST);
        Due.is("all are there", x.grew(0, 1, 0), 0);
    }

    private static void promise21ToNow() {
        Due.about("promise 21, NONE: to NOW");
        RoomGone x = new RoomGone();
        Stores.fileOf(x, 2);
        x.mark();
        Due.is("nothing came since", x.grew(0, 0, -1), 0);
        x.cut(0, 1);
        Due.is("one less, which is no refusal", x.grew(0, 0, -1), -1);
        Stores.append(x, 0, 3);
        Due.is("two more", x.grew(0, 0, -1), 2);
        x.snapshot();
        x.unlink(0);
        Due.is("all are gone", x.grew(0, 0, -1), -2);
    }

    private static void promise21WasntThere() {
        Due.about("promise 21, TAKEN of a FOLDER that wasn't there is 0");
        RoomGone x = new RoomGone();
        x.mark();
        for (int folder = 1; folder < 30; folder++) {
            x.folder(0, 0, false);
        }
        Stores.fileIn(x, 29, 1, 3);
        x.mark();
        Due.is("the last, from before it came", x.grew(29, 0, 1), 3);
        Due.is("the last, to before it came", x.grew(29, 1, 0), -3);
        Due.is("the last, to NOW", x.grew(29, 0, -1), 3);
        Due.is("both marks from before", x.grew(1, 0, 0), 0);
        Due.is("an empty one", x.grew(28, 0, 1), 0);
    }

    private static void promise21TheGreatest() {
        Due.about("promise 21, as much as can be");
        RoomGone x = new RoomGone();
        x.mark();
        Stores.fileOf(x, 60);
        x.mark();
        x.unlink(0);
        Due.is("60 more", x.grew(0, 0, 1), 60);
        Due.is("60 less", x.grew(0, 1, 0), -60);
        Due.is("60 less, to NOW", x.grew(0, 1, -1), -60);
    }

    private static void promise21AsItWas() {
        Due.about("promise 21, TAKEN of each TREE as it was");
        RoomGone x = new RoomGone();
        x.folder(0, 0, false);
        x.folder(0, 0, true);
        Stores.fileIn(x, 1, 1, 2);
        x.mark();
        x.move(1, 2);
        x.mark();
        x.unlink(0);
        Due.is("folder 2 got a tree", x.grew(2, 0, 1), 2);
        Due.is("the root had it all the time", x.grew(0, 0, 1), 0);
        Due.is("folder 1 has lost its file since", x.grew(1, 0, -1), -2);
        Due.is("the marks stay", x.grew(1, 0, 1), 0);
    }

    /** Marks of the root's taken blocks, as day and blocks by turns; the store is left at the last one. */
    private static RoomGone marked(int... daysAndBlocks) {
        RoomGone x = new RoomGone();
        x.file(0, 0, 0);
        for (int i = 0; i + 1 < daysAndBlocks.length; i += 2) {
            Stores.goFar(x, daysAndBlocks[i] - x.count(0));
            Stores.append(x, 0, Math.max(0, daysAndBlocks[i + 1] - x.told(0, 0)));
            x.cut(0, daysAndBlocks[i + 1]);
            x.mark();
        }
        return x;
    }

    private static void full(String call, RoomGone x, int earliest, int latest) {
        Due.is(call + ": full(0)", x.full(0), earliest);
        Due.is(call + ": full(1)", x.full(1), latest);
    }

    private static void promise28NoneForOthers() {
        Due.about("promise 28, NONE for others");
        RoomGone x = marked(0, 0, 1, 1);
        for (int what : new int[] {-1, 2, 3, LEAST, GREATEST}) {
            Due.none("full(" + what + ")", x.full(what));
        }
        full("59 lack", x, 60, 60);
    }

    private static void promise28NoTwoSuchMarks() {
        Due.about("promise 28, there are no two such MARKS");
        full("no mark", marked(), -1, -1);
        full("one mark", marked(3, 5), -1, -1);
        full("two on one day", marked(3, 5, 3, 9), -1, -1);
        full("three on one day", marked(0, 0, 0, 9, 0, 20), -1, -1);
        RoomGone later = marked(3, 5, 3, 9);
        later.go(5);
        full("NOW is no mark", later, -1, -1);
    }

    private static void promise28SideBySide() {
        Due.about("promise 28, MARKS side by side on different DAYS");
        full("0 to 10 in one day, then none on the same", marked(0, 0, 1, 10, 1, 10), 6, 6);
        full("30 at once don't count", marked(0, 0, 0, 30, 1, 32), 15, 15);
        full("neither at the end", marked(0, 0, 1, 2, 1, 30), 16, 16);
        full("not over one between", marked(0, 0, 1, 20, 2, 10), 5, -1);
    }

    private static void promise28IsntAbove0() {
        Due.about("promise 28, none, if it isn't above 0");
        full("no growth", marked(0, 5, 1, 5), -1, -1);
        full("it shrinks", marked(0, 5, 1, 4), -1, -1);
        full("the least is 0", marked(0, 5, 1, 5, 2, 6), 56, -1);
        full("the least is below 0", marked(0, 5, 1, 4, 2, 6), 29, -1);
        full("the least is 1", marked(0, 5, 1, 6, 2, 8), 28, 54);
        RoomGone shrunk = marked(0, 60, 1, 1);
        Stores.append(shrunk, 0, 59);
        full("nothing lacks, but it shrank", shrunk, -1, -1);
    }

    private static void promise28CutDownAndUp() {
        Due.about("promise 28, cut down to whole ones, also below 0; the greatest cut up");
        full("1/2 is 0 and 1", marked(0, 0, 2, 1), 61, -1);
        full("2/2 is 1 and 1", marked(0, 0, 2, 2), 60, 60);
        full("3/2 is 1 and 2", marked(0, 0, 2, 3), 31, 59);
        full("-1/2 is -1 and 0", marked(0, 1, 2, 0), -1, -1);
        full("1/5000 is 0 and 1", marked(0, 0, 5000, 1), 5059, -1);
        full("60 in 59 days is 1 and 2", marked(0, 0, 59, 60), 59, 59);
        full("-1/2 and 1/2", marked(0, 1, 2, 0, 4, 1), 63, -1);
    }

    private static void promise28WhatLacksCutUp() {
        Due.about("promise 28, NOW and what lacks by it, cut up");
        full("55 lack, by 5", marked(0, 0, 1, 5), 12, 12);
        full("54 lack, by 6", marked(0, 0, 1, 6), 10, 10);
        full("53 lack, by 7", marked(0, 0, 1, 7), 9, 9);
        full("30 lack, by 30", marked(0, 0, 1, 30), 2, 2);
        full("29 lack, by 31", marked(0, 0, 1, 31), 2, 2);
        full("1 lacks, by 59", marked(0, 0, 1, 59), 2, 2);
        RoomGone less = marked(0, 0, 1, 5);
        less.holds(6);
        full("1 lacks, as it holds 6", less, 2, 2);
    }

    private static void promise28NothingLacks() {
        Due.about("promise 28, nothing lacks");
        full("60 are taken", marked(0, 0, 7, 60), 7, 7);
        RoomGone less = marked(0, 0, 1, 5);
        less.holds(5);
        full("it holds what is taken", less, 1, 1);
        RoomGone last = marked(4999, 0, 5000, 60);
        full("on the last day", last, 5000, 5000);
    }

    private static void promise28TheTwentieth() {
        Due.about("promise 28, by the last of 20 MARKS");
        int[] all = new int[40];
        for (int mark = 0; mark < 20; mark++) {
            all[2 * mark] = 2 * mark;
            all[2 * mark + 1] = mark < 19 ? 2 * mark : 42;
        }
        full("the last pair grew by 3 a day", marked(all), 44, 56);
    }

    private static void promise28FromNow() {
        Due.about("promise 28, what is TAKEN NOW by the root's TREE");
        RoomGone x = marked(0, 0, 1, 10);
        x.go(4);
        full("NOW is 5", x, 10, 10);
        x.cut(0, 0);
        full("60 lack", x, 11, 11);
        Stores.append(x, 0, 20);
        x.snapshot();
        x.cut(0, 10);
        full("what snapshots have isn't taken", x, 10, 10);
        x.folder(0, 0, true);
        x.file(1, 0, 0);
        Stores.append(x, 1, 10);
        full("what is in a hidden folder is", x, 9, 9);
    }
}
