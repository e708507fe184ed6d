import java.util.ArrayList;
import java.util.List;
import java.util.function.IntSupplier;

/** Long runs of mixed calls, the same on the class and on Model: every answer and every exception is the same. */
public final class ModelTest {
    private static final int RUNS = 40;
    /** One change can be some sixty calls of append; with the questions no ground is used for more than 512. */
    private static final int CALLS = 380;
    private static final String LETTERS = "br0123456789:,;bxr;";

    private static long seed = 1;
    private static BurialGround ground = null;
    private static List<Call> calls = null;

    private interface Call {
        int on(BurialGround g);
    }

    private ModelTest() {
    }

    /** A row of numbers that is the same in every run of the test. */
    private static int any(int bound) {
        seed = seed * 6364136223846793005L + 1442695040888963407L;
        return (int) ((seed >>> 33) % bound);
    }

    private static int rarelyWrong(int first, int last) {
        int die = any(60);
        return die == 0 ? first - 1 : die == 1 ? last + 1 : first + any(last - first + 1);
    }

    private static long answerOf(IntSupplier call) {
        try {
            return call.getAsInt();
        } catch (IndexOutOfBoundsException e) {
            return Long.MIN_VALUE;
        } catch (IllegalArgumentException e) {
            return Long.MIN_VALUE + 1;
        } catch (IllegalStateException e) {
            return Long.MIN_VALUE + 2;
        }
    }

    /** The call is made on the ground of the run, and kept for the grounds that are asked. */
    private static void made(String call, Call got, IntSupplier want) {
        Checks.due(call, answerOf(() -> got.on(ground)), answerOf(want));
        calls.add(got);
    }

    private static void asked(BurialGround g, String call, Call got, IntSupplier want) {
        Checks.due(call, answerOf(() -> got.on(g)), answerOf(want));
    }

    /** A ground on which all calls of the run are made, so that it can be asked within its 512 calls. */
    private static BurialGround another() {
        BurialGround g = new BurialGround();
        for (Call call : calls) {
            answerOf(() -> call.on(g));
        }
        return g;
    }

    private static String entries() {
        StringBuilder text = new StringBuilder();
        int number = 1 + any(4);
        for (int i = 0; i < number; i++) {
            boolean bury = any(2) == 0;
            text.append(i == 0 ? "" : ";").append(bury ? "b" : "r").append(any(4)).append(":").append(any(40));
            text.append(",").append(bury ? 1 + any(3) : 1 + any(50));
        }
        if (any(4) == 0) {
            text.setCharAt(any(text.length()), LETTERS.charAt(any(LETTERS.length())));
        }
        return text.toString();
    }

    private static void write(Model m) {
        String text = entries();
        for (int i = 0; i < text.length(); i++) {
            int code = text.charAt(i);
            made("append " + code, g -> g.append(code), () -> m.append(code));
        }
    }

    private static void change(Model m, int families) {
        int f = any(50) == 0 ? rarelyWrong(0, 9) : any(families);
        int p = rarelyWrong(0, 39);
        int d = rarelyWrong(1, 3);
        int k = rarelyWrong(0, 3);
        int y = any(3) == 0 ? rarelyWrong(1, 100) : 1 + any(12);
        int r = rarelyWrong(1, 50);
        switch (any(16)) {
            case 0 -> made("lay " + p + " " + k, g -> g.lay(p, k), () -> m.lay(p, k));
            case 1 -> made("pass " + y, g -> g.pass(y), () -> m.pass(y));
            case 2 -> made("setParish " + f, g -> g.setParish(f, y % 2 == 0), () -> m.setParish(f, y % 2 == 0));
            case 3 -> made("reserve " + f + " " + p + " " + r, g -> g.reserve(f, p, r), () -> m.reserve(f, p, r));
            case 4 -> made("buildVault " + f + " " + p, g -> g.buildVault(f, p), () -> m.buildVault(f, p));
            case 5 -> made("clear " + p, g -> g.clear(p), () -> m.clear(p));
            case 6 -> made("undo", g -> g.undo(), () -> m.undo());
            case 7 -> write(m);
            case 8 -> made("load", g -> g.load(), () -> m.load());
            case 9 -> made("clearBuffer", g -> g.clearBuffer(), () -> m.clearBuffer());
            default -> made("bury " + f + " " + p + " " + d, g -> g.bury(f, p, d), () -> m.bury(f, p, d));
        }
    }

    private static void ask(Model m, int families) {
        BurialGround g = another();
        int f = any(50) == 0 ? rarelyWrong(0, 9) : any(families);
        int p = rarelyWrong(0, 39);
        int d = rarelyWrong(1, 3);
        asked(g, "why " + f + " " + p + " " + d, x -> x.why(f, p, d), () -> m.why(f, p, d));
        asked(g, "fee " + f + " " + p + " " + d, x -> x.fee(f, p, d), () -> m.fee(f, p, d));
        asked(g, "yearFor " + f + " " + p + " " + d, x -> x.yearFor(f, p, d), () -> m.yearFor(f, p, d));
        asked(g, "deepest " + f + " " + p, x -> x.deepest(f, p), () -> m.deepest(f, p));
        asked(g, "clearYear " + p, x -> x.clearYear(p), () -> m.clearYear(p));
        asked(g, "cutsOff " + p, x -> x.cutsOff(p), () -> m.cutsOff(p));
        asked(g, "firstError", x -> x.firstError(), () -> m.firstError());
        for (int what = -1; what <= 9; what++) {
            int w = what;
            asked(g, "plot " + p + " " + w, x -> x.plot(p, w), () -> m.plot(p, w));
            asked(g, "burial " + p + " " + d + " " + w, x -> x.burial(p, d, w), () -> m.burial(p, d, w));
            asked(g, "family " + f + " " + w, x -> x.family(f, w), () -> m.family(f, w));
            asked(g, "count " + w, x -> x.count(w), () -> m.count(w));
        }
        Checks.due("meanFee", Double.doubleToLongBits(g.meanFee()), Double.doubleToLongBits(m.meanFee()));
    }

    /** The digest holds all that there is; ways and texts are asked apart. */
    private static void askEverything(Model m) {
        BurialGround g = another();
        Checks.due("digest", g.digest(), digestOf(m));
        for (int plot = 0; plot < 40; plot++) {
            int p = plot;
            asked(g, "cutsOff " + p, x -> x.cutsOff(p), () -> m.cutsOff(p));
        }
        for (int family = 0; family < 10; family++) {
            int f = family;
            asked(g, "bestPlot " + f, x -> x.bestPlot(f), () -> m.bestPlot(f));
        }
    }

    private static long digestOf(Model m) {
        long hash = 2267;
        for (int what = 0; what <= 8; what++) {
            hash = 31 * hash + m.count(what);
        }
        for (int plot = 0; plot < 40; plot++) {
            for (int what = 0; what <= 8; what++) {
                hash = 31 * hash + m.plot(plot, what);
            }
            for (int place = 0; place < 12; place++) {
                hash = 31 * hash + m.burial(plot, 1 + place / 4, place % 4);
            }
            hash = 31 * hash + m.clearYear(plot);
        }
        for (int family = 0; family < 10; family++) {
            for (int what = 0; what <= 5; what++) {
                hash = 31 * hash + m.family(family, what);
            }
            hash = 31 * hash + m.bestPlot(family);
        }
        hash = 31 * hash + Double.doubleToLongBits(m.meanFee());
        hash = 31 * hash + m.text().length();
        for (int i = 0; i < m.text().length(); i++) {
            hash = 31 * hash + m.text().charAt(i);
        }
        return hash;
    }

    public static void main(String[] args) {
        for (int run = 0; run < RUNS; run++) {
            ground = new BurialGround();
            calls = new ArrayList<>();
            Model m = new Model();
            int families = 1 + run % 4;
            for (int step = 0; calls.size() < CALLS; step++) {
                change(m, families);
                ask(m, families);
                if (step % 40 == 39) {
                    askEverything(m);
                }
            }
        }
        Checks.end();
    }
}
