/** Compares answers with those that are due, prints the wrong ones, and tells the exit code. */
final class Due {
    private static int asked = 0;
    private static int wrong = 0;
    private static String promise = "";

    private Due() {
    }

    /** The sentence of the document that the next answers stand for; it is printed with a wrong one. */
    static void about(String sentence) {
        promise = sentence + ": ";
    }

    static void is(String call, long got, long due) {
        asked++;
        if (got != due) {
            wrong++;
            System.out.println(promise + call + " answered " + got + ", due is " + due);
        }
    }

    static void yes(String call, boolean got) {
        is(call, got ? 1 : 0, 1);
    }

    static void no(String call, boolean got) {
        is(call, got ? 1 : 0, 0);
    }

    static void none(String call, int got) {
        is(call, got, RoomGone.NONE);
    }

    static void end() {
        System.out.println(asked + " answers, " + wrong + " wrong");
        if (wrong != 0 || asked == 0) {
            System.exit(1);
        }
    }
}
