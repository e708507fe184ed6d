/** Counts answers that are not the ones that are due. */
final class Checks {
    interface Call {
        long answer();
    }

    static final String INDEX = "IndexOutOfBoundsException";
    static final String ARGUMENT = "IllegalArgumentException";
    static final String STATE = "IllegalStateException";

    private static int made = 0;
    private static int wrong = 0;

    private Checks() {
    }

    static void due(String what, long got, long want) {
        made++;
        if (got != want) {
            wrong++;
            System.out.println(what + " answered " + got + ", due is " + want);
        }
    }

    static void same(String what, String got, String want) {
        made++;
        if (!got.equals(want)) {
            wrong++;
            System.out.println(what + " ended with " + got + ", due is " + want);
        }
    }

    /** Also sees to it that the call changes nothing. */
    static void refused(String what, BurialGround ground, String exception, Call call) {
        long before = ground.digest();
        String got = "no exception";
        try {
            call.answer();
        } catch (RuntimeException e) {
            got = e.getClass().getSimpleName();
        }
        same(what, got, exception);
        due(what + ": digest afterwards", ground.digest(), before);
    }

    static void write(BurialGround ground, String text) {
        ground.clearBuffer();
        for (int i = 0; i < text.length(); i++) {
            ground.append(text.charAt(i));
        }
    }

    static void end() {
        System.out.println(made + " checks, " + wrong + " wrong");
        if (wrong != 0) {
            System.exit(1);
        }
    }
}
