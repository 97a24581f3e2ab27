import java.util.function.Predicate;
import java.util.function.Supplier;
import java.util.function.ToIntFunction;

/**
 * "What is refused changes nothing": each reason that the document names for refusing a call, in a store
 * that is far from its limits or has come to one; after it the store answers all that can be asked as one
 * does that never got the call.
 */
public final class RefusedTest {
    private static final int LEAST = Integer.MIN_VALUE;
    private static final int GREATEST = Integer.MAX_VALUE;

    private static final Sample SMALL = new Sample(RefusedTest::small, new Questions(4, 3, 5, 2));
    private static final Sample LAST_DAY = new Sample(RefusedTest::lastDay, new Questions(1, 1, 1, 2));
    private static final Sample ALL_FOLDERS = new Sample(RefusedTest::allFolders, new Questions(30, 1, 1, 0));
    private static final Sample ALL_FILES = new Sample(RefusedTest::allFiles, new Questions(1, 40, 40, 0));
    private static final Sample ALL_NAMES = new Sample(RefusedTest::allNames, new Questions(1, 2, 100, 0));
    private static final Sample LONG_FILE = new Sample(RefusedTest::longFile, new Questions(1, 2, 2, 0));
    private static final Sample ALL_BLOCKS = new Sample(RefusedTest::allBlocks, new Questions(1, 2, 2, 0));
    private static final Sample FULL_STORE = new Sample(RefusedTest::fullStore, new Questions(1, 2, 2, 0));
    private static final Sample ALL_SNAPSHOTS = new Sample(RefusedTest::allSnapshots, new Questions(1, 1, 1, 0));
    private static final Sample ALL_MARKS = new Sample(RefusedTest::allMarks, new Questions(1, 1, 1, 20));

    public static void main(String[] args) {
        refusedGo();
        refusedFolder();
        refusedMove();
        refusedFile();
        refusedCopy();
        refusedLinkAndUnlink();
        refusedWrite();
        refusedHole();
        refusedShare();
        refusedCut();
        refusedSnapshotsAndMarks();
        refusedHolds();
        refusedQuestions();
        Due.end();
    }

    private static final class Sample {
        private final Supplier<RoomGone> maker;
        private final Questions questions;
        private final String untouched;

        Sample(Supplier<RoomGone> maker, Questions questions) {
            this.maker = maker;
            this.questions = questions;
            this.untouched = questions.answersOf(maker);
        }

        void none(String call, ToIntFunction<RoomGone> refused) {
            Due.none(call, refused.applyAsInt(maker.get()));
            Due.yes(call + " changes nothing", untouched.equals(questions.answersOf(() -> {
                RoomGone store = maker.get();
                refused.applyAsInt(store);
                return store;
            })));
        }

        void no(String call, Predicate<RoomGone> refused) {
            none(call, store -> refused.test(store) ? 1 : RoomGone.NONE);
        }
    }

    /** Folders 1 in 0, 2 in 1, 3 in 0; file 0 with a hole at 2, file 1, file 2 gone; snapshots 0 and 2. */
    private static RoomGone small() {
        RoomGone x = new RoomGone();
        x.folder(0, 1, true);
        x.folder(1, 2, false);
        x.folder(0, 3, false);
        x.file(0, 1, 3);
        x.file(2, 2, 5);
        x.file(3, 3, 7);
        x.link(1, 0);
        x.link(1, 3);
        Stores.append(x, 0, 2);
        x.hole(0, 2);
        Stores.append(x, 1, 3);
        x.mark();
        x.snapshot();
        x.snapshot();
        x.snapshot();
        x.drop(1);
        x.unlink(2);
        x.unlink(3);
        x.go(2);
        x.write(0, 1);
        x.mark();
        x.go(1);
        x.holds(50);
        return x;
    }

    private static RoomGone lastDay() {
        RoomGone x = new RoomGone();
        x.file(0, 0, 0);
        x.mark();
        Stores.goFar(x, 5000);
        x.write(0, 0);
        x.mark();
        return x;
    }

    private static RoomGone allFolders() {
        RoomGone x = new RoomGone();
        for (int folder = 1; folder < 30; folder++) {
            x.folder(folder / 2, folder % 6, folder % 9 == 0 || folder == 29);
        }
        Stores.fileIn(x, 29, 1, 2);
        return x;
    }

    private static RoomGone allFiles() {
        RoomGone x = new RoomGone();
        for (int file = 0; file < 40; file++) {
            x.file(0, file % 6, file);
        }
        x.write(39, 0);
        x.unlink(7);
        return x;
    }

    private static RoomGone allNames() {
        RoomGone x = new RoomGone();
        x.file(0, 0, 0);
        x.file(0, 0, 0);
        for (int name = 2; name < 100; name++) {
            x.link(name % 2, 0);
        }
        x.write(1, 0);
        x.unlink(50);
        return x;
    }

    private static RoomGone longFile() {
        RoomGone x = new RoomGone();
        x.file(0, 0, 1);
        x.file(0, 0, 2);
        Stores.append(x, 0, 2);
        for (int place = 2; place < 60; place++) {
            x.hole(0, place);
        }
        x.write(1, 0);
        x.go(3);
        return x;
    }

    private static RoomGone allBlocks() {
        RoomGone x = new RoomGone();
        x.file(0, 0, 1);
        x.file(0, 0, 2);
        Stores.append(x, 0, 50);
        x.snapshot();
        x.cut(0, 20);
        Stores.append(x, 1, 10);
        x.go(3);
        return x;
    }

    private static RoomGone fullStore() {
        RoomGone x = new RoomGone();
        x.file(0, 0, 1);
        x.file(0, 0, 2);
        Stores.append(x, 0, 3);
        x.snapshot();
        x.cut(0, 1);
        x.write(1, 0);
        x.holds(4);
        x.go(3);
        return x;
    }

    private static RoomGone allSnapshots() {
        RoomGone x = new RoomGone();
        x.file(0, 0, 1);
        for (int snapshot = 0; snapshot < 8; snapshot++) {
            x.write(0, 0);
            x.snapshot();
        }
        x.write(0, 0);
        return x;
    }

    private static RoomGone allMarks() {
        RoomGone x = new RoomGone();
        x.file(0, 0, 1);
        for (int mark = 0; mark < 20; mark++) {
            x.write(0, mark);
            x.mark();
            x.go(1);
        }
        x.write(0, 20);
        return x;
    }

    private static void refusedGo() {
        Due.about("promise 2, refused");
        for (int n : new int[] {-1, -500, 501, 5000, LEAST, GREATEST}) {
            SMALL.none("go(" + n + ")", x -> x.go(n));
            LAST_DAY.none("go(" + n + ") on the last day", x -> x.go(n));
        }
    }

    private static void refusedFolder() {
        Due.about("promise 3, refused");
        for (int in : new int[] {-1, 4, 29, 30, LEAST, GREATEST}) {
            SMALL.none("folder in " + in, x -> x.folder(in, 0, false));
        }
        for (int owner : new int[] {-1, 6, LEAST, GREATEST}) {
            SMALL.none("folder of owner " + owner, x -> x.folder(0, owner, true));
        }
        ALL_FOLDERS.none("the 31st folder", x -> x.folder(0, 0, false));
        ALL_FOLDERS.none("the 31st folder, in the 30th", x -> x.folder(29, 5, true));
    }

    private static void refusedMove() {
        Due.about("promise 4, refused");
        for (int folder : new int[] {-1, 4, 30, LEAST, GREATEST}) {
            SMALL.no("move " + folder, x -> x.move(folder, 0));
            SMALL.no("move to " + folder, x -> x.move(1, folder));
        }
        SMALL.no("move the root", x -> x.move(0, 1));
        SMALL.no("move the root to itself", x -> x.move(0, 0));
        SMALL.no("move to itself", x -> x.move(1, 1));
        SMALL.no("move to one in it", x -> x.move(1, 2));
        ALL_FOLDERS.no("move to one deep in it", x -> x.move(1, 29 / 2));
    }

    private static void refusedFile() {
        Due.about("promise 5, refused");
        for (int wrong : new int[] {-1, LEAST, GREATEST}) {
            SMALL.none("file in " + wrong, x -> x.file(wrong, 0, 0));
            SMALL.none("file of owner " + wrong, x -> x.file(0, wrong, 0));
            SMALL.none("file of worth " + wrong, x -> x.file(0, 0, wrong));
        }
        SMALL.none("file in no such folder", x -> x.file(4, 0, 0));
        SMALL.none("file of owner 6", x -> x.file(0, 6, 0));
        SMALL.none("file of worth 1000", x -> x.file(0, 0, 1000));
        ALL_FILES.none("the 41st file", x -> x.file(0, 0, 0));
        ALL_NAMES.none("a file as the 101st name", x -> x.file(0, 0, 0));
    }

    private static void refusedCopy() {
        Due.about("promise 6, refused");
        for (int wrong : new int[] {-1, 5, 100, LEAST, GREATEST}) {
            SMALL.none("copy of name " + wrong, x -> x.copy(wrong, 0));
            SMALL.none("copy in " + wrong, x -> x.copy(0, wrong));
        }
        SMALL.none("copy of a name whose file is gone", x -> x.copy(2, 0));
        SMALL.none("copy of a name that went, of a file that is there", x -> x.copy(3, 0));
        ALL_FILES.none("a copy as the 41st file", x -> x.copy(39, 0));
        ALL_NAMES.none("a copy as the 101st name", x -> x.copy(1, 0));
    }

    private static void refusedLinkAndUnlink() {
        Due.about("promise 7, refused");
        for (int wrong : new int[] {-1, 4, 40, LEAST, GREATEST}) {
            SMALL.none("link of file " + wrong, x -> x.link(wrong, 0));
            SMALL.none("link in " + wrong, x -> x.link(0, wrong));
        }
        SMALL.none("link of the file to come", x -> x.link(3, 0));
        SMALL.none("link of a file that is gone", x -> x.link(2, 0));
        ALL_NAMES.none("the 101st name", x -> x.link(0, 0));
        Due.about("promise 8, refused");
        for (int name : new int[] {-1, 5, 100, LEAST, GREATEST}) {
            SMALL.no("unlink " + name, x -> x.unlink(name));
        }
        SMALL.no("unlink a name whose file is gone", x -> x.unlink(2));
        SMALL.no("unlink a name that went, of a file that is there", x -> x.unlink(3));
        ALL_NAMES.no("unlink the 101st", x -> x.unlink(100));
    }

    private static void refusedWrite() {
        Due.about("promise 10, refused");
        for (int wrong : new int[] {-1, 4, 40, 60, LEAST, GREATEST}) {
            SMALL.none("write to file " + wrong, x -> x.write(wrong, 0));
            SMALL.none("write at " + wrong, x -> x.write(0, wrong));
        }
        SMALL.none("write to the file to come", x -> x.write(3, 0));
        SMALL.none("write to a file that is gone", x -> x.write(2, 0));
        LONG_FILE.none("write at 60", x -> x.write(0, 60));
        ALL_BLOCKS.none("no block is free, at the end", x -> x.write(0, 20));
        ALL_BLOCKS.none("no block is free, over a place", x -> x.write(1, 0));
        FULL_STORE.none("as many as it holds, at the end", x -> x.write(0, 1));
        FULL_STORE.none("as many as it holds, over a place", x -> x.write(1, 0));
    }

    private static void refusedHole() {
        Due.about("promise 11, refused");
        for (int wrong : new int[] {-1, 4, 40, 60, LEAST, GREATEST}) {
            SMALL.no("hole in file " + wrong, x -> x.hole(wrong, 0));
            SMALL.no("hole at " + wrong, x -> x.hole(0, wrong));
        }
        SMALL.no("hole in the file to come", x -> x.hole(3, 0));
        SMALL.no("hole in a file that is gone", x -> x.hole(2, 0));
        LONG_FILE.no("hole at 60", x -> x.hole(0, 60));
    }

    private static void refusedShare() {
        Due.about("promise 12, refused");
        for (int wrong : new int[] {-1, 4, 40, 60, LEAST, GREATEST}) {
            SMALL.no("share to file " + wrong, x -> x.share(wrong, 0, 0, 0));
            SMALL.no("share to place " + wrong, x -> x.share(0, wrong, 1, 0));
            SMALL.no("share from file " + wrong, x -> x.share(0, 0, wrong, 0));
            SMALL.no("share from place " + wrong, x -> x.share(0, 0, 1, wrong));
        }
        SMALL.no("share to a file that is gone", x -> x.share(2, 0, 0, 0));
        SMALL.no("share from a file that is gone", x -> x.share(0, 0, 2, 0));
        SMALL.no("share to the file to come", x -> x.share(3, 0, 0, 0));
        SMALL.no("share from the file to come", x -> x.share(0, 0, 3, 0));
        SMALL.no("share a hole", x -> x.share(1, 0, 0, 2));
        SMALL.no("share a hole of its own", x -> x.share(0, 0, 0, 2));
        SMALL.no("share the end", x -> x.share(1, 0, 0, 3));
        SMALL.no("share its own end", x -> x.share(0, 3, 0, 3));
        LONG_FILE.no("share to place 60", x -> x.share(0, 60, 1, 0));
        LONG_FILE.no("share from place 60", x -> x.share(1, 0, 0, 60));
    }

    private static void refusedCut() {
        Due.about("promise 13, refused");
        for (int wrong : new int[] {-1, 4, 40, 60, LEAST, GREATEST}) {
            SMALL.no("cut file " + wrong, x -> x.cut(wrong, 0));
            SMALL.no("cut to " + wrong, x -> x.cut(0, wrong));
        }
        SMALL.no("cut a file that is gone", x -> x.cut(2, 0));
        SMALL.no("cut the file to come", x -> x.cut(3, 0));
        LONG_FILE.no("cut to 61", x -> x.cut(0, 61));
    }

    private static void refusedSnapshotsAndMarks() {
        Due.about("promise 17, refused");
        ALL_SNAPSHOTS.none("the 9th snapshot", x -> x.snapshot());
        Due.about("promise 18, refused");
        for (int snapshot : new int[] {-1, 1, 3, 7, 8, 9, LEAST, GREATEST}) {
            SMALL.none("drop(" + snapshot + ")", x -> x.drop(snapshot));
        }
        ALL_SNAPSHOTS.none("drop(8) of 8", x -> x.drop(8));
        Due.about("promise 20, refused");
        ALL_MARKS.none("the 21st mark", x -> x.mark());
    }

    private static void refusedHolds() {
        Due.about("promise 27, refused");
        for (int blocks : new int[] {-1, 0, 61, LEAST, GREATEST}) {
            SMALL.no("holds(" + blocks + ")", x -> x.holds(blocks));
        }
        for (int blocks = 1; blocks < 4; blocks++) {
            int less = blocks;
            FULL_STORE.no("4 are had: holds(" + less + ")", x -> x.holds(less));
        }
        ALL_BLOCKS.no("60 are had: holds(59)", x -> x.holds(59));
    }

    /** What is asked for in vain is refused, too. */
    private static void refusedQuestions() {
        Due.about("questions, refused");
        for (int wrong : new int[] {-1, 61, LEAST, GREATEST}) {
            SMALL.none("of", x -> x.of(wrong));
            SMALL.none("block", x -> x.block(wrong, 0));
            SMALL.none("sum", x -> x.sum(wrong, 0, 0));
            SMALL.none("sum by nobody", x -> x.sum(0, wrong, 0));
            SMALL.none("sum of what", x -> x.sum(0, 0, wrong));
            SMALL.none("named", x -> x.named(wrong, 0, 0));
            SMALL.none("named to nobody", x -> x.named(0, wrong, 0));
            SMALL.none("alone", x -> x.alone(wrong));
            SMALL.none("grew", x -> x.grew(wrong, 0, 0) == LEAST ? RoomGone.NONE : 0);
            SMALL.none("freed", x -> x.freed(wrong));
            SMALL.none("both", x -> x.both(0, wrong));
            SMALL.none("plan", x -> x.plan(0, wrong));
            SMALL.none("planned", x -> x.planned(0, wrong, 0));
            SMALL.none("largest", x -> x.largest(0, wrong));
            SMALL.none("full", x -> x.full(wrong));
            SMALL.none("told", x -> x.told(0, wrong));
            SMALL.none("count", x -> x.count(wrong));
        }
    }
}
