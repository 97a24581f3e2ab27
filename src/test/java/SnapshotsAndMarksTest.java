/** Promises 17 to 21 and 28: snapshots, marks, growth, when the store is full. */
public final class SnapshotsAndMarksTest {
    private static final int NO_GROWTH = -2147483648;

    public static void main(String[] args) {
        promise17Snapshot();
        promise18Drop();
        promise19Alone();
        promise20Mark();
        promise21Grew();
        promise21GrewOfTrees();
        promise28Full();
        promise28RoundsBothWays();
        promise28MarksSideBySide();
        promise28AllMarks();
        promise28NoDay();
        Due.end();
    }

    private static void promise17Snapshot() {
        RoomGone x = new RoomGone();
        Stores.fileOf(x, 2);
        for (int number = 0; number < 8; number++) {
            Due.is("snapshot " + number, x.snapshot(), number);
        }
        Due.none("8 are there", x.snapshot());
        x.drop(5);
        x.drop(2);
        Due.is("the least that is free", x.snapshot(), 2);
        Due.is("the next", x.snapshot(), 5);
        x.unlink(0);
        Due.is("blocks are held", x.count(6), 2);
        Due.is("an empty one is there, too", emptySnapshots(), 2);
    }

    private static int emptySnapshots() {
        RoomGone x = new RoomGone();
        x.snapshot();
        x.snapshot();
        return x.count(4);
    }

    private static void promise18Drop() {
        RoomGone x = new RoomGone();
        Due.none("none there", x.drop(0));
        Stores.fileOf(x, 3);
        x.snapshot();
        x.write(0, 0);
        x.snapshot();
        x.cut(0, 0);
        Due.none("NONE", x.drop(-1));
        Due.none("8", x.drop(8));
        Due.is("block 0 is free by that", x.drop(0), 1);
        Due.none("it went", x.drop(0));
        Due.is("3 are held still", x.count(6), 3);
        Due.is("block 0 can be written", x.write(0, 0), 0);
        x.share(0, 1, 0, 0);
        Due.is("the other", x.drop(1), 3);
        Due.is("the file's own is left", x.count(6), 1);
        Due.is("an empty one frees none", dropEmpty(), 0);
    }

    private static int dropEmpty() {
        RoomGone x = new RoomGone();
        x.snapshot();
        return x.drop(0);
    }

    private static void promise19Alone() {
        RoomGone x = new RoomGone();
        Due.none("none there", x.alone(0));
        Stores.fileOf(x, 4);
        x.snapshot();
        Due.is("the file has all", x.alone(0), 0);
        x.cut(0, 2);
        Due.is("two that no file has", x.alone(0), 2);
        x.snapshot();
        x.cut(0, 0);
        Due.is("two are held by both", x.alone(0), 2);
        Due.is("the other has none alone", x.alone(1), 0);
        x.drop(0);
        Due.is("now it has two", x.alone(1), 2);
        Due.none("NONE", x.alone(-1));
        Due.none("8", x.alone(8));
        Due.none("dropped", x.alone(0));
        x.write(0, 0);
        Due.is("what is written later isn't held", x.alone(1), 2);
    }

    private static void promise20Mark() {
        RoomGone x = new RoomGone();
        for (int number = 0; number < 20; number++) {
            Due.is("mark " + number, x.mark(), number);
        }
        Due.none("20 came", x.mark());
        Due.is("20 are told", x.count(5), 20);
        Due.is("there is no mark 20", x.grew(0, 20, -1), NO_GROWTH);
        Stores.fileOf(x, 2);
        Due.is("what was marked stays", x.grew(0, 19, -1), 2);
    }

    private static void promise21Grew() {
        RoomGone x = new RoomGone();
        Stores.fileOf(x, 1);
        x.mark();
        Stores.append(x, 0, 3);
        x.mark();
        x.cut(0, 2);
        Due.is("from 0 to 1", x.grew(0, 0, 1), 3);
        Due.is("from 1 to 0", x.grew(0, 1, 0), -3);
        Due.is("from 0 to NOW", x.grew(0, 0, -1), 1);
        Due.is("from 1 to NOW", x.grew(0, 1, -1), -2);
        Due.is("from a mark to itself", x.grew(0, 1, 1), 0);
        Due.is("no such folder", x.grew(1, 0, 1), NO_GROWTH);
        Due.is("folder NONE", x.grew(-1, 0, 1), NO_GROWTH);
        Due.is("no such mark", x.grew(0, 2, 0), NO_GROWTH);
        Due.is("to no such mark", x.grew(0, 0, 2), NO_GROWTH);
        Due.is("to -2", x.grew(0, 0, -2), NO_GROWTH);
        Due.is("from NONE", x.grew(0, -1, 0), NO_GROWTH);
        Due.is("from NONE to NOW", x.grew(0, -1, -1), NO_GROWTH);
    }

    private static void promise21GrewOfTrees() {
        RoomGone x = new RoomGone();
        x.folder(0, 0, false);
        x.mark();
        x.folder(0, 0, true);
        Stores.fileIn(x, 2, 1, 3);
        x.mark();
        x.move(2, 1);
        x.mark();
        x.link(0, 0);
        Due.is("one that wasn't there had 0", x.grew(2, 0, 1), 3);
        Due.is("one that wasn't there, backwards", x.grew(2, 1, 0), -3);
        Due.is("a tree came in", x.grew(1, 1, 2), 3);
        Due.is("the root has the same", x.grew(0, 1, 2), 0);
        Due.is("a mark keeps trees as they were", x.grew(1, 0, 1), 0);
        x.snapshot();
        x.cut(0, 1);
        Due.is("snapshots don't count", x.grew(0, 2, -1), -2);
    }

    /** Marks of the root's taken blocks, as day and blocks by turns; the store is left at the last one. */
    private static RoomGone marked(int... daysAndBlocks) {
        RoomGone x = new RoomGone();
        x.file(0, 0, 0);
        for (int i = 0; i + 1 < daysAndBlocks.length; i += 2) {
            Stores.goFar(x, daysAndBlocks[i] - x.count(0));
            int more = daysAndBlocks[i + 1] - x.told(0, 0);
            Stores.append(x, 0, Math.max(0, more));
            x.cut(0, daysAndBlocks[i + 1]);
            x.mark();
        }
        return x;
    }

    private static void promise28Full() {
        RoomGone x = marked(0, 0, 10, 20, 20, 30);
        Due.is("30 lack, by 2 a day", x.full(0), 35);
        Due.is("30 lack, by 1 a day", x.full(1), 50);
        x.go(5);
        Due.is("from NOW on", x.full(0), 40);
        Stores.append(x, 0, 5);
        Due.is("25 lack, by 2 a day, cut up", x.full(0), 38);
        x.holds(35);
        Due.is("nothing lacks", x.full(0), 25);
        Due.is("nothing lacks by the least either", x.full(1), 25);
        Due.none("what 2", x.full(2));
        Due.none("what -1", x.full(-1));
        x.holds(60);
        x.snapshot();
        x.cut(0, 30);
        Due.is("what snapshots have isn't taken", x.full(0), 40);
    }

    private static void promise28RoundsBothWays() {
        RoomGone x = marked(0, 0, 2, 5, 5, 9);
        Due.is("greatest of 5/2 and 4/3 is 3: 51 lack", x.full(0), 22);
        Due.is("least of 2 and 1 is 1", x.full(1), 56);
        RoomGone slow = marked(0, 0, 10, 3);
        Due.is("3/10 cut up is 1", slow.full(0), 67);
        Due.none("3/10 cut down is 0", slow.full(1));
        RoomGone down = marked(0, 10, 10, 7);
        Due.none("-3/10 cut up is 0", down.full(0));
        Due.none("-3/10 cut down is -1", down.full(1));
        RoomGone late = marked(4998, 0, 5000, 2);
        Due.is("the day isn't cut off at 5000", late.full(0), 5058);
    }

    private static void promise28MarksSideBySide() {
        RoomGone x = marked(3, 0, 3, 30, 4, 32, 4, 40, 6, 42);
        Due.is("only 2 in 1 and 2 in 2 days count", x.full(0), 15);
        Due.is("the least is 1", x.full(1), 24);
        RoomGone apart = marked(0, 0, 1, 9, 2, 4, 3, 6);
        Due.is("the greatest is of neighbours", apart.full(0), 9);
        Due.none("the least is below 0", apart.full(1));
        RoomGone slowFirst = marked(0, 0, 1, 1, 2, 11);
        Due.is("the first pair is the least", slowFirst.full(1), 51);
        Due.is("the last pair is the greatest", slowFirst.full(0), 7);
        RoomGone other = marked(0, 0, 10, 10);
        other.folder(0, 0, false);
        other.file(1, 0, 0);
        Stores.append(other, 1, 10);
        other.go(10);
        other.mark();
        Due.is("the root's tree has what is below", other.full(1), 60);
    }

    private static void promise28AllMarks() {
        int[] all = new int[40];
        for (int mark = 0; mark < 20; mark++) {
            all[2 * mark] = mark;
            all[2 * mark + 1] = mark < 19 ? mark : 20;
        }
        Due.is("by the last of 20 marks", marked(all).full(0), 39);
        Due.is("by the others", marked(all).full(1), 59);
    }

    private static void promise28NoDay() {
        Due.none("no mark", new RoomGone().full(0));
        Due.none("one mark", marked(5, 5).full(1));
        Due.none("two on one day", marked(5, 5, 5, 9).full(0));
        Due.none("two on one day, the least", marked(5, 5, 5, 9).full(1));
        Due.none("no growth", marked(5, 5, 6, 5).full(0));
        Due.none("it shrinks", marked(5, 9, 6, 5).full(0));
    }
}
