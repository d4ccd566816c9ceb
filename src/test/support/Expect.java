/** Counts and prints the answers that are not the ones that are due. */
final class Expect {
    interface Call {
        void run();
    }

    /** As many as are of use to a reader; the count at the end has them all. */
    private static final int MOST_PRINTED = 50;

    private static int wrong = 0;
    private static String about = "";

    private Expect() {
    }

    /** What is printed ahead of each answer from now on. */
    static void about(String text) {
        about = text;
    }

    static void is(String what, long got, long want) {
        if (got != want) {
            report(what + " answered " + got + ", due is " + want);
        }
    }

    static void same(String what, String got, String want) {
        if (!got.equals(want)) {
            report(what + " answered " + got + ", due is " + want);
        }
    }

    static void fails(Class<? extends RuntimeException> kind, String what, Call call) {
        String got = "nothing";
        try {
            call.run();
        } catch (RuntimeException e) {
            got = e.getClass().getSimpleName();
        }
        same(what + " throws", got, kind.getSimpleName());
    }

    static void badArgument(String what, Call call) {
        fails(IllegalArgumentException.class, what, call);
    }

    static void badState(String what, Call call) {
        fails(IllegalStateException.class, what, call);
    }

    static void badIndex(String what, Call call) {
        fails(IndexOutOfBoundsException.class, what, call);
    }

    static int wrongSoFar() {
        return wrong;
    }

    static void end() {
        if (wrong != 0) {
            System.out.println(wrong + " answers are not as due");
            System.exit(1);
        }
    }

    static void report(String text) {
        wrong++;
        if (wrong <= MOST_PRINTED) {
            System.out.println(about + text);
        }
    }
}
