import java.util.function.IntSupplier;

/** Long runs of mixed calls, the same on the class and on Model: every answer and every exception is the same. */
public final class ModelTest {
    private static final int RUNS = 30;
    private static final int CALLS = 400;
    private static final String LETTERS = "br0123456789:,;bxr;";

    private static long seed = 1;

    private ModelTest() {
    }

    /** A row of numbers that is the same in every run of the test. */
    private static int any(int bound) {
        seed = seed * 6364136223846793005L + 1442695040888963407L;
        return (int) ((seed >>> 33) % bound);
    }

    private static int rarelyWrong(int first, int last) {
        int die = any(60);
        return die == 0 ? first - 1 : die == 1 ? last + 1 : first + any(last - first + 1);
    }

    private static long answerOf(IntSupplier call) {
        try {
            return call.getAsInt();
        } catch (IndexOutOfBoundsException e) {
            return Long.MIN_VALUE;
        } catch (IllegalArgumentException e) {
            return Long.MIN_VALUE + 1;
        } catch (IllegalStateException e) {
            return Long.MIN_VALUE + 2;
        }
    }

    private static void same(String call, IntSupplier got, IntSupplier want) {
        Checks.due(call, answerOf(got), answerOf(want));
    }

    private static String entries() {
        StringBuilder text = new StringBuilder();
        int number = 1 + any(4);
        for (int i = 0; i < number; i++) {
            boolean bury = any(2) == 0;
            text.append(i == 0 ? "" : ";").append(bury ? "b" : "r").append(any(4)).append(":").append(any(40));
            text.append(",").append(bury ? 1 + any(3) : 1 + any(50));
        }
        if (any(4) == 0) {
            text.setCharAt(any(text.length()), LETTERS.charAt(any(LETTERS.length())));
        }
        return text.toString();
    }

    private static void write(BurialGround g, Model m) {
        String text = entries();
        for (int i = 0; i < text.length(); i++) {
            int code = text.charAt(i);
            same("append " + code, () -> g.append(code), () -> m.append(code));
        }
    }

    private static void change(BurialGround g, Model m, int families) {
        int f = any(50) == 0 ? rarelyWrong(0, 9) : any(families);
        int p = rarelyWrong(0, 39);
        int d = rarelyWrong(1, 3);
        int k = rarelyWrong(0, 3);
        int y = any(3) == 0 ? rarelyWrong(1, 100) : 1 + any(12);
        int r = rarelyWrong(1, 50);
        switch (any(16)) {
            case 0 -> same("lay " + p + " " + k, () -> g.lay(p, k), () -> m.lay(p, k));
            case 1 -> same("pass " + y, () -> g.pass(y), () -> m.pass(y));
            case 2 -> same("setParish " + f, () -> g.setParish(f, y % 2 == 0), () -> m.setParish(f, y % 2 == 0));
            case 3 -> same("reserve " + f + " " + p + " " + r, () -> g.reserve(f, p, r), () -> m.reserve(f, p, r));
            case 4 -> same("buildVault " + f + " " + p, () -> g.buildVault(f, p), () -> m.buildVault(f, p));
            case 5 -> same("clear " + p, () -> g.clear(p), () -> m.clear(p));
            case 6 -> same("undo", () -> g.undo(), () -> m.undo());
            case 7 -> write(g, m);
            case 8 -> same("load", () -> g.load(), () -> m.load());
            case 9 -> same("clearBuffer", () -> g.clearBuffer(), () -> m.clearBuffer());
            default -> same("bury " + f + " " + p + " " + d, () -> g.bury(f, p, d), () -> m.bury(f, p, d));
        }
    }

    private static void ask(BurialGround g, Model m, int families) {
        int f = any(50) == 0 ? rarelyWrong(0, 9) : any(families);
        int p = rarelyWrong(0, 39);
        int d = rarelyWrong(1, 3);
        same("why " + f + " " + p + " " + d, () -> g.why(f, p, d), () -> m.why(f, p, d));
        same("fee " + f + " " + p + " " + d, () -> g.fee(f, p, d), () -> m.fee(f, p, d));
        same("yearFor " + f + " " + p + " " + d, () -> g.yearFor(f, p, d), () -> m.yearFor(f, p, d));
        same("deepest " + f + " " + p, () -> g.deepest(f, p), () -> m.deepest(f, p));
        same("clearYear " + p, () -> g.clearYear(p), () -> m.clearYear(p));
        same("cutsOff " + p, () -> g.cutsOff(p), () -> m.cutsOff(p));
        same("firstError", () -> g.firstError(), () -> m.firstError());
        for (int what = -1; what <= 9; what++) {
            int w = what;
            same("plot " + p + " " + w, () -> g.plot(p, w), () -> m.plot(p, w));
            same("burial " + p + " " + d + " " + w, () -> g.burial(p, d, w), () -> m.burial(p, d, w));
            same("family " + f + " " + w, () -> g.family(f, w), () -> m.family(f, w));
            same("count " + w, () -> g.count(w), () -> m.count(w));
        }
        Checks.due("meanFee", Double.doubleToLongBits(g.meanFee()), Double.doubleToLongBits(m.meanFee()));
    }

    private static void everything(BurialGround g, Model m) {
        for (int plot = 0; plot < 40; plot++) {
            int p = plot;
            for (int what = 0; what <= 8; what++) {
                int w = what;
                same("plot " + p + " " + w, () -> g.plot(p, w), () -> m.plot(p, w));
            }
            for (int place = 0; place < 12; place++) {
                int d = 1 + place / 4;
                int w = place % 4;
                same("burial " + p + " " + d + " " + w, () -> g.burial(p, d, w), () -> m.burial(p, d, w));
            }
            same("cutsOff " + p, () -> g.cutsOff(p), () -> m.cutsOff(p));
        }
        for (int family = 0; family < 10; family++) {
            int f = family;
            same("bestPlot " + f, () -> g.bestPlot(f), () -> m.bestPlot(f));
        }
        Checks.due("digest", g.digest(), PromisesTest.digestOf(g, m.text()));
    }

    public static void main(String[] args) {
        for (int run = 0; run < RUNS; run++) {
            BurialGround g = new BurialGround();
            Model m = new Model();
            int families = 1 + run % 4;
            for (int call = 0; call < CALLS; call++) {
                change(g, m, families);
                ask(g, m, families);
                if (call % 50 == 49) {
                    everything(g, m);
                }
            }
        }
        Checks.end();
    }
}
