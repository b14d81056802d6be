/** Counts the answers that are not as due, and ends the test with them. */
final class Check {
    private static int wrong = 0;
    private static int asked = 0;

    private Check() {
    }

    interface Call {
        long answer();
    }

    static void is(long due, Call call, String what) {
        same(String.valueOf(due), told(call), what);
    }

    static void isIndex(Call call, String what) {
        fails(IndexOutOfBoundsException.class, call, what);
    }

    static void isArgument(Call call, String what) {
        fails(IllegalArgumentException.class, call, what);
    }

    static void isState(Call call, String what) {
        fails(IllegalStateException.class, call, what);
    }

    /** The very class: an exception of the machine may be of a class below it. */
    static void fails(Class<? extends RuntimeException> due, Call call, String what) {
        same(due.getSimpleName(), told(call), what);
    }

    /** The answer, or the name of the exception. */
    static String told(Call call) {
        try {
            return String.valueOf(call.answer());
        } catch (RuntimeException e) {
            return e.getClass().getSimpleName();
        }
    }

    static void same(String due, String got, String what) {
        asked++;
        if (!due.equals(got)) {
            report(what + " answered " + got + ", due is " + due);
        }
    }

    static void report(String what) {
        wrong++;
        if (wrong <= 40) {
            System.out.println(what);
        }
    }

    static void finish() {
        System.out.println(asked + " calls asked, " + wrong + " wrong");
        if (wrong != 0) {
            System.exit(1);
        }
    }
}
