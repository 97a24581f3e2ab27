import java.util.Random;

/**
 * All promises: long runs of calls, each answer compared with the plain model's. What a call needs to know
 * beforehand is asked of the model, as the store answers for 512 calls alone.
 */
public final class LongRunsTest {
    private static final int CALLS = 512;
    private static final int CALLS_TO_START_LATE = 10;

    private final Random random;
    private final RoomGone store = new RoomGone();
    private final PlainModel model = new PlainModel();
    private final int folders;
    private final int files;
    private final int wildness;
    private int callsLeft = CALLS;
    private String call = "";

    private LongRunsTest(int seed) {
        random = new Random(seed);
        // Few folders and files in some runs, so that plans come about and blocks are shared much.
        folders = 1 + random.nextInt(seed % 3 == 0 ? 30 : 6);
        files = 1 + random.nextInt(seed % 4 == 0 ? 40 : 8);
        wildness = 3 + random.nextInt(60);
        if (seed % 5 == 0) {
            startLate();
        }
    }

    /** So that the run comes to the last day early, and has marks and changes there. */
    private void startLate() {
        for (int i = 0; i < CALLS_TO_START_LATE; i++) {
            Due.is("a late start", store.go(499), model.go(499));
        }
        callsLeft -= CALLS_TO_START_LATE;
    }

    public static void main(String[] args) {
        for (int seed = 0; seed < 400; seed++) {
            LongRunsTest run = new LongRunsTest(seed);
            for (int i = 0; i < run.callsLeft; i++) {
                run.compare("run " + seed + ", call " + i + ": ");
            }
        }
        Due.end();
    }

    /** Mostly a number below the bound, now and then one that is just beyond it, or wild. */
    private int pick(int bound) {
        if (random.nextInt(wildness) == 0) {
            return Stores.WILD[random.nextInt(Stores.WILD.length)];
        }
        return random.nextInt(wildness) == 0 ? bound : random.nextInt(bound);
    }

    private int folder() {
        return pick(Math.min(folders, model.count(1)));
    }

    private int file() {
        return pick(Math.max(1, Math.min(files, model.count(2) + 2)));
    }

    private int place(int file) {
        int length = Math.max(0, model.told(file, 0));
        return random.nextInt(3) > 0 ? length : pick(length + 1);
    }

    private void compare(String where) {
        int kind = random.nextInt(40);
        long[] answers = kind < 10 ? grow() : kind < 20 ? change(kind) : kind < 30 ? ask(kind) : askMore(kind);
        Due.is(where + call, answers[0], answers[1]);
    }

    private static long[] two(long got, long due) {
        return new long[] {got, due};
    }

    private static long[] two(boolean got, boolean due) {
        return two(got ? 1 : 0, due ? 1 : 0);
    }

    /** Most runs need many writes and shares before anything else is worth asking. */
    private long[] grow() {
        int file = file();
        int place = place(file);
        int other = file();
        int at = pick(Math.max(1, model.told(other, 0)));
        switch (random.nextInt(5)) {
            case 0:
            case 1:
                call = "write " + file + " " + place;
                return two(store.write(file, place), model.write(file, place));
            case 2:
                call = "hole " + file + " " + place;
                return two(store.hole(file, place), model.hole(file, place));
            default:
                call = "share " + file + " " + place + " " + other + " " + at;
                return two(store.share(file, place, other, at), model.share(file, place, other, at));
        }
    }

    private long[] change(int kind) {
        int a = folder();
        int b = folder();
        int name = pick(Math.max(1, model.count(3) + 3));
        int file = file();
        call = "change " + kind + " of " + a + " " + b + " " + name + " " + file;
        switch (kind) {
            case 10:
                int owner = pick(6);
                boolean hidden = random.nextInt(3) == 0;
                return model.count(1) >= folders ? two(0, 0)
                    : two(store.folder(a, owner, hidden), model.folder(a, owner, hidden));
            case 11:
                return two(store.move(a, b), model.move(a, b));
            case 12:
                int worth = random.nextInt(4) == 0 ? pick(1000) : random.nextInt(6);
                return two(store.file(a, 1, worth), model.file(a, 1, worth));
            case 13:
                return random.nextBoolean() ? two(0, 0) : two(store.copy(name, a), model.copy(name, a));
            case 14:
                return two(store.link(file, a), model.link(file, a));
            case 15:
                return random.nextBoolean() ? two(0, 0) : two(store.unlink(name), model.unlink(name));
            case 16:
                return changeStore();
            case 17:
                int length = pick(Math.max(1, model.told(file, 0)) + 1);
                return two(store.cut(file, length), model.cut(file, length));
            case 18:
                int days = random.nextInt(3) == 0 ? pick(501) : random.nextInt(6);
                return two(store.go(days), model.go(days));
            default:
                return two(store.block(file, b), model.block(file, b));
        }
    }

    private long[] changeStore() {
        int number = pick(8);
        call = "store " + number;
        switch (random.nextInt(6)) {
            case 0:
                return two(store.snapshot(), model.snapshot());
            case 1:
            case 2:
                return two(store.drop(number), model.drop(number));
            case 3:
                int blocks = random.nextInt(3) == 0 ? pick(61) : 60;
                return two(store.holds(blocks), model.holds(blocks));
            default:
                return two(store.mark(), model.mark());
        }
    }

    private long[] ask(int kind) {
        int folder = folder();
        int who = pick(6);
        int number = pick(9);
        int file = file();
        call = "ask " + kind + " of " + folder + " " + who + " " + number + " " + file;
        switch (kind) {
            case 20:
                return two(store.of(number), model.of(number));
            case 21:
            case 22:
                return two(store.sum(folder, who, number % 4), model.sum(folder, who, number % 4));
            case 23:
                return two(store.named(folder, who, number), model.named(folder, who, number));
            case 24:
                return two(store.alone(number), model.alone(number));
            case 25:
                return two(store.told(file, number), model.told(file, number));
            case 26:
                return two(store.count(number), model.count(number));
            case 27:
                return two(store.full(number % 3), model.full(number % 3));
            case 28:
                int to = random.nextBoolean() ? -1 : pick(20);
                return two(store.grew(folder, number, to), model.grew(folder, number, to));
            default:
                return two(store.block(file, number), model.block(file, number));
        }
    }

    private long[] askMore(int kind) {
        int folder = folder();
        int other = file();
        int file = file();
        int k = pick(5);
        int n = random.nextInt(4) == 0 ? pick(61) : 1 + random.nextInt(6);
        call = "ask " + kind + " of " + folder + " " + other + " " + file + " " + k + " " + n;
        switch (kind) {
            case 30:
            case 31:
                return two(store.freed(folder), model.freed(folder));
            case 32:
            case 33:
                return two(store.both(other, file), model.both(other, file));
            case 34:
                return two(store.plan(folder, n), model.plan(folder, n));
            case 35:
                return two(store.planned(folder, n, k), model.planned(folder, n, k));
            case 36:
            case 37:
                return two(store.largest(folder, k), model.largest(folder, k));
            default:
                int mark = pick(Math.max(1, model.count(5)));
                return two(store.grew(folder, mark, k - 1), model.grew(folder, mark, k - 1));
        }
    }
}
