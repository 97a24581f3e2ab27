/** All promises: wild numbers in every argument; what is refused changes nothing, and nothing throws. */
public final class WrongInputsTest {
    private static final int CHANGES = 15;
    private static final Questions QUESTIONS = new Questions(3, 2, 3, 2);
    private static final String BEFORE = QUESTIONS.answersOf(WrongInputsTest::sample);

    public static void main(String[] args) {
        for (int a : Stores.WILD) {
            for (int b : Stores.WILD) {
                askAll(a, b);
                for (int change = 0; change < CHANGES; change++) {
                    refuse(change, a, b);
                }
            }
        }
        Due.end();
    }

    private static RoomGone sample() {
        RoomGone x = new RoomGone();
        x.folder(0, 1, true);
        x.folder(1, 2, false);
        Stores.fileIn(x, 0, 3, 4);
        Stores.fileIn(x, 2, 5, 2);
        x.hole(1, 2);
        x.link(1, 0);
        x.mark();
        x.go(2);
        x.snapshot();
        x.write(0, 1);
        x.mark();
        return x;
    }

    /** Calls that only ask may answer anything here, but they change nothing. */
    private static void askAll(int a, int b) {
        Due.yes("asking with " + a + ", " + b + " changes nothing",
            BEFORE.equals(QUESTIONS.answersOf(() -> asked(a, b))));
    }

    private static RoomGone asked(int a, int b) {
        RoomGone x = sample();
        for (int c : new int[] {-1, 0, 1, Integer.MIN_VALUE, Integer.MAX_VALUE}) {
            x.sum(a, b, c);
            x.sum(c, a, b);
            x.named(a, b, c);
            x.named(c, a, b);
            x.grew(a, b, c);
            x.grew(c, a, b);
            x.planned(a, b, c);
            x.planned(c, a, b);
        }
        x.of(a);
        x.block(a, b);
        x.alone(a);
        x.freed(a);
        x.both(a, b);
        x.plan(a, b);
        x.largest(a, b);
        x.full(a);
        x.told(a, b);
        x.count(a);
        return x;
    }

    private static void refuse(int change, int a, int b) {
        if (isRefused(sample(), change, a, b)) {
            Due.yes("refused change " + change + " with " + a + ", " + b + " changes nothing",
                BEFORE.equals(QUESTIONS.answersOf(() -> {
                    RoomGone x = sample();
                    isRefused(x, change, a, b);
                    return x;
                })));
        }
    }

    private static boolean isRefused(RoomGone x, int change, int a, int b) {
        switch (change) {
            case 0:
                return x.go(a) == RoomGone.NONE;
            case 1:
                return x.folder(a, b, true) == RoomGone.NONE;
            case 2:
                return !x.move(a, b);
            case 3:
                return x.file(a, b, 1) == RoomGone.NONE;
            case 4:
                return x.file(0, a, b) == RoomGone.NONE;
            case 5:
                return x.copy(a, b) == RoomGone.NONE;
            case 6:
                return x.link(a, b) == RoomGone.NONE;
            case 7:
                return !x.unlink(a);
            case 8:
                return x.write(a, b) == RoomGone.NONE;
            case 9:
                return !x.hole(a, b);
            case 10:
                return !x.share(a, b, 0, 0);
            case 11:
                return !x.share(0, 0, a, b);
            case 12:
                return !x.cut(a, b);
            case 13:
                return x.drop(a) == RoomGone.NONE;
            default:
                return !x.holds(a);
        }
    }
}
