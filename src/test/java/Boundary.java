/**
 * One boundary case after another, each one on grounds of its own that are made ready anew, so that no case leans on
 * another and no ground is used for more calls than the document promises.
 */
abstract class Boundary {
    interface Preparation {
        void of(BurialGround g);
    }

    interface Call {
        long on(BurialGround g);
    }

    interface CallWith {
        long on(BurialGround g, int value);
    }

    interface Due {
        long at(int value);
    }

    static final int CLAY = 0;
    static final int SAND = 1;
    static final int ROCK = 2;
    static final int PATH = 3;
    static final int NONE = -1;
    static final String INDEX = Checks.INDEX;
    static final String ARGUMENT = Checks.ARGUMENT;
    static final String STATE = Checks.STATE;
    static final Preparation NOTHING = g -> { };
    /** Both plots beside the gate are closed, by family 9. */
    static final Preparation SHUT = g -> {
        g.bury(9, 8, 3);
        g.bury(9, 1, 3);
    };

    private static final int MOST_SAVED = 6;

    private static String heading = "";

    /** Says which sentence of the document the next cases hold: its promise or term, and its words. */
    static void sentence(String promise, String words) {
        heading = promise + ", \"" + words + "\": ";
    }

    static BurialGround ready(Preparation preparation) {
        BurialGround g = new BurialGround();
        preparation.of(g);
        return g;
    }

    static void check(String what, long got, long want) {
        Checks.due(heading + what, got, want);
    }

    static void answers(String what, Preparation preparation, Call call, long want) {
        String ending = endingOf(ready(preparation), call);
        Checks.same(heading + what, ending, String.valueOf(want));
    }

    /** The call throws, and a ground without this call is the same: to its buffer and all its saved states. */
    static void refuses(String what, Preparation preparation, Call call, String exception) {
        BurialGround touched = ready(preparation);
        Checks.same(heading + what, endingOf(touched, call), exception);
        sameGrounds(what + ": after the refused call", touched, ready(preparation));
    }

    /** The call answers, saves one state, and is taken back whole. Wants a ground with fewer than six saved states. */
    static void undoable(String what, Preparation preparation, Call call, long want) {
        BurialGround touched = ready(preparation);
        int saved = touched.count(8);
        Checks.same(heading + what, endingOf(touched, call), String.valueOf(want));
        check(what + ": saved states", touched.count(8), saved + 1);
        check(what + ": undo", touched.undo(), saved);
        sameGrounds(what + ": undone", touched, ready(preparation));
    }

    /** The call answers and changes nothing. */
    static void onlyTells(String what, Preparation preparation, Call call, long want) {
        BurialGround touched = ready(preparation);
        Checks.same(heading + what, endingOf(touched, call), String.valueOf(want));
        sameGrounds(what + ": after the question", touched, ready(preparation));
    }

    /** Every value from the first to the last one is answered as is due; those beside them are refused. */
    static void range(String what, Preparation preparation, int first, int last, CallWith call, Due due,
            String exception) {
        for (int value = first; value <= last; value++) {
            int allowed = value;
            answers(what + " of " + value, preparation, g -> call.on(g, allowed), due.at(value));
        }
        refusesBeside(what, preparation, first, last, call, exception);
    }

    static void refusesBeside(String what, Preparation preparation, int first, int last, CallWith call,
            String exception) {
        for (int value : beside(first, last)) {
            refuses(what + " of " + value, preparation, g -> call.on(g, value), exception);
        }
    }

    /** The nearest values outside, those that a byte or a short would take for one inside, and the farthest ones. */
    static int[] beside(int first, int last) {
        return new int[] {first - 1, last + 1, first - 256, first + 256, last + 256, first + 65536, last - 65536,
            Integer.MIN_VALUE, Integer.MIN_VALUE + last, Integer.MAX_VALUE};
    }

    static void sameGrounds(String what, BurialGround got, BurialGround want) {
        check(what + ", digest", got.digest(), want.digest());
        int left = want.count(8);
        check(what + ", saved states", got.count(8), left);
        for (int i = 0; i < MOST_SAVED && left > 0; i++) {
            left = want.undo();
            check(what + ", undo", got.undo(), left);
            check(what + ", digest with " + left + " saved states left", got.digest(), want.digest());
        }
    }

    static String endingOf(BurialGround g, Call call) {
        try {
            return String.valueOf(call.on(g));
        } catch (RuntimeException e) {
            return e.getClass().getSimpleName();
        }
    }

    static void passYears(BurialGround g, int years) {
        for (int left = years; left > 0; left -= 100) {
            g.pass(Math.min(left, 100));
        }
    }

    static Preparation later(Preparation before, int years) {
        return g -> {
            before.of(g);
            passYears(g, years);
        };
    }

    static Preparation then(Preparation before, Call call) {
        return g -> {
            before.of(g);
            call.on(g);
        };
    }

    static Preparation thenAll(Preparation before, Preparation after) {
        return g -> {
            before.of(g);
            after.of(g);
        };
    }

    static void write(BurialGround g, String text) {
        for (int i = 0; i < text.length(); i++) {
            g.append(text.charAt(i));
        }
    }

    static Preparation text(String text) {
        return g -> write(g, text);
    }
}
