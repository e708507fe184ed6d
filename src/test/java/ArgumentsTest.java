/**
 * Every call with every mix of ordinary, edge and outlandish arguments, on grounds of each sort: it answers, or throws
 * the exception that its throws clause names first for these arguments, and then nothing is changed. So LANGUAGE.md's
 * rules 6 and 7 hold: no call throws by itself, and nothing but the document's exceptions reaches the caller.
 */
public final class ArgumentsTest extends Boundary {
    private static final int[] VALUES = {Integer.MIN_VALUE, -1, 0, 1, 2, 3, 4, 8, 9, 10, 39, 40, 50, 51, 100, 101,
        Integer.MAX_VALUE};

    private static String ground = "";
    private static Preparation preparation = NOTHING;
    private static BurialGround same = new BurialGround();
    private static long digest = 0;
    private static int asked = 0;

    private interface Call1 {
        long on(BurialGround g, int a);
    }

    private interface Call2 {
        long on(BurialGround g, int a, int b);
    }

    private interface Call3 {
        long on(BurialGround g, int a, int b, int c);
    }

    /** Which exception is due for these arguments; "" if none is due for them alone. */
    private interface Due1 {
        String of(int a);
    }

    private interface Due2 {
        String of(int a, int b);
    }

    private interface Due3 {
        String of(int a, int b, int c);
    }

    private ArgumentsTest() {
    }

    private static boolean in(int value, int first, int last) {
        return value >= first && value <= last;
    }

    private static String due(boolean isIndex, boolean isArgument) {
        return !isIndex ? INDEX : !isArgument ? ARGUMENT : "";
    }

    /** A call that changed the ground gets another one, and so do grounds that were asked often. */
    private static void anew() {
        same = ready(preparation);
        digest = same.digest();
        asked = 0;
    }

    private static void ends(String what, boolean mayRefuse, String due, Call call) {
        String ending = endingOf(same, call);
        boolean threw = ending.endsWith("Exception");
        if (due.isEmpty() && threw) {
            Checks.same(ground + what, ending, mayRefuse ? STATE : "an answer");
        } else if (!due.isEmpty()) {
            Checks.same(ground + what, ending, due);
        }
        asked += 2;
        if (threw) {
            Checks.due(ground + what + ", digest after it", same.digest(), digest);
        }
        if (asked > 200 || !threw) {
            anew();
        }
    }

    private static void call1(String name, boolean mayRefuse, Call1 call, Due1 due) {
        for (int a : VALUES) {
            ends(name + "(" + a + ")", mayRefuse, due.of(a), g -> call.on(g, a));
        }
    }

    private static void call2(String name, boolean mayRefuse, Call2 call, Due2 due) {
        for (int a : VALUES) {
            call1(name + " of " + a, mayRefuse, (g, b) -> call.on(g, a, b), b -> due.of(a, b));
        }
    }

    private static void call3(String name, boolean mayRefuse, Call3 call, Due3 due) {
        for (int a : VALUES) {
            call2(name + " of " + a, mayRefuse, (g, b, c) -> call.on(g, a, b, c), (b, c) -> due.of(a, b, c));
        }
    }

    private static boolean isFamily(int family) {
        return in(family, 0, 9);
    }

    private static boolean isPlot(int plot) {
        return in(plot, 0, 39);
    }

    private static void changes() {
        call2("lay", true, (g, p, k) -> g.lay(p, k), (p, k) -> due(in(p, 1, 39), in(k, 0, 3)));
        call1("pass", true, (g, y) -> g.pass(y), y -> due(true, in(y, 1, 100)));
        call1("setParish to true", false, (g, f) -> g.setParish(f, true), f -> due(isFamily(f), true));
        call1("setParish to false", false, (g, f) -> g.setParish(f, false), f -> due(isFamily(f), true));
        call3("bury", true, (g, f, p, d) -> g.bury(f, p, d),
            (f, p, d) -> due(isFamily(f) && isPlot(p), in(d, 1, 3)));
        call3("reserve", true, (g, f, p, y) -> g.reserve(f, p, y),
            (f, p, y) -> due(isFamily(f) && isPlot(p), in(y, 1, 50)));
        call2("buildVault", true, (g, f, p) -> g.buildVault(f, p), (f, p) -> due(isFamily(f) && isPlot(p), true));
        call1("clear", true, (g, p) -> g.clear(p), p -> due(isPlot(p), true));
        call1("append", true, (g, code) -> g.append(code), code -> due(true, in(code, 33, 126)));
    }

    private static void whatThereIs() {
        call2("plot", false, (g, p, what) -> g.plot(p, what), (p, what) -> due(isPlot(p), in(what, 0, 8)));
        call3("burial", false, (g, p, d, what) -> g.burial(p, d, what),
            (p, d, what) -> due(isPlot(p) && in(d, 1, 3), in(what, 0, 3)));
        call2("family", false, (g, f, what) -> g.family(f, what), (f, what) -> due(isFamily(f), in(what, 0, 5)));
        call1("count", false, (g, what) -> g.count(what), what -> due(true, in(what, 0, 8)));
    }

    private static void whatWouldBe() {
        call3("why", false, (g, f, p, d) -> g.why(f, p, d),
            (f, p, d) -> due(isFamily(f) && isPlot(p), in(d, 1, 3)));
        call3("fee", false, (g, f, p, d) -> g.fee(f, p, d),
            (f, p, d) -> due(isFamily(f) && isPlot(p), in(d, 1, 3)));
        call2("deepest", false, (g, f, p) -> g.deepest(f, p), (f, p) -> due(isFamily(f) && isPlot(p), true));
        call1("bestPlot", false, (g, f) -> g.bestPlot(f), f -> due(isFamily(f), true));
        call3("yearFor", false, (g, f, p, d) -> g.yearFor(f, p, d),
            (f, p, d) -> due(isFamily(f) && isPlot(p), in(d, 1, 3)));
        call1("clearYear", false, (g, p) -> g.clearYear(p), p -> due(isPlot(p), true));
        call1("cutsOff", false, (g, p) -> g.cutsOff(p), p -> due(isPlot(p), true));
    }

    private static void on(String name, Preparation of) {
        ground = name + ": ";
        preparation = of;
        anew();
        changes();
        whatThereIs();
        whatWouldBe();
    }

    public static void main(String[] args) {
        on("new", NOTHING);
        on("of all sorts", g -> {
            g.lay(2, SAND);
            g.lay(3, ROCK);
            g.lay(4, PATH);
            g.setParish(1, false);
            g.reserve(0, 39, 3);
            g.reserve(1, 8, 50);
            g.pass(4);
            g.buildVault(3, 2);
            g.bury(3, 2, 3);
            g.bury(2, 10, 2);
            g.bury(9, 9, 1);
            write(g, "b0:1,");
        });
        on("shut, in the last year, with a full buffer", g -> {
            g.reserve(4, 39, 50);
            g.bury(4, 39, 3);
            SHUT.of(g);
            passYears(g, 2000);
            write(g, "r0:3,50;".repeat(7) + "b1:2");
        });
        Checks.end();
    }
}
