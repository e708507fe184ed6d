/** For each promise of the document: ordinary inputs, the edges that it names, wrong inputs. */
public final class PromisesTest {
    private static final int CLAY = 0;
    private static final int SAND = 1;
    private static final int ROCK = 2;
    private static final int PATH = 3;
    private static final int NONE = BurialGround.NONE;
    private static final int[] NO_PLOTS = {-1, 40, Integer.MIN_VALUE, Integer.MAX_VALUE};
    private static final int[] NO_FAMILIES = {-1, 10, Integer.MIN_VALUE, Integer.MAX_VALUE};
    private static final int[] NO_DEPTHS = {0, 4, -1, Integer.MIN_VALUE, Integer.MAX_VALUE};

    private static void due(String what, long got, long want) {
        Checks.due(what, got, want);
    }

    private static void refused(String what, BurialGround g, String exception, Checks.Call call) {
        Checks.refused(what, g, exception, call);
    }

    private static void passYears(BurialGround g, int years) {
        for (int left = years; left > 0; left -= 100) {
            g.pass(Math.min(left, 100));
        }
    }

    private static void newObject() {
        BurialGround g = new BurialGround();
        due("NONE", BurialGround.NONE, -1);
        due("1 kind of the gate", g.plot(0, 0), PATH);
        for (int plot = 1; plot < 40; plot++) {
            due("1 kind of " + plot, g.plot(plot, 0), CLAY);
        }
        for (int family = 0; family < 10; family++) {
            due("1 parish of " + family, g.family(family, 0), 1);
            due("1 paid by " + family, g.family(family, 1), 0);
        }
        due("1 year", g.count(0), 0);
        due("1 saved", g.count(8), 0);
        due("1 buffer", g.clearBuffer(), 0);
    }

    private static void lay() {
        BurialGround g = new BurialGround();
        due("2 lay(1, 1)", g.lay(1, SAND), CLAY);
        due("2 lay(1, 3)", g.lay(1, PATH), SAND);
        due("2 lay(1, 2)", g.lay(1, ROCK), PATH);
        due("2 lay(1, 2) again", g.lay(1, ROCK), ROCK);
        due("2 kind", g.plot(1, 0), ROCK);
        due("2 saved also without a change", g.count(8), 4);
        due("2 lay(39, 3)", g.lay(39, PATH), CLAY);
        for (int plot : NO_PLOTS) {
            refused("2 lay(" + plot + ", 9)", g, Checks.INDEX, () -> g.lay(plot, 9));
        }
        refused("2 lay(0, 3)", g, Checks.INDEX, () -> g.lay(0, PATH));
        refused("2 lay(0, 9)", g, Checks.INDEX, () -> g.lay(0, 9));
        g.reserve(0, 2, 1);
        g.buildVault(0, 3);
        g.bury(0, 4, 3);
        for (int plot = 2; plot <= 4; plot++) {
            int used = plot;
            refused("2 lay in use " + plot, g, Checks.STATE, () -> g.lay(used, SAND));
            refused("2 lay in use, no kind " + plot, g, Checks.ARGUMENT, () -> g.lay(used, 4));
        }
        refused("2 lay(5, -1)", g, Checks.ARGUMENT, () -> g.lay(5, -1));
        refused("2 lay(5, 4)", g, Checks.ARGUMENT, () -> g.lay(5, 4));
        passYears(g, 30);
        refused("2 lay on a lapsed reservation", g, Checks.STATE, () -> g.lay(2, SAND));
        refused("2 lay on an old burial", g, Checks.STATE, () -> g.lay(4, SAND));
        g.clear(4);
        due("2 lay on a cleared plot", g.lay(4, SAND), CLAY);
    }

    private static void pass() {
        BurialGround g = new BurialGround();
        g.reserve(0, 1, 4);
        g.reserve(1, 2, 5);
        g.reserve(2, 3, 6);
        due("3 pass(4): the year itself has not lapsed", g.pass(4), 0);
        due("3 pass(1)", g.pass(1), 1);
        due("3 pass(100)", g.pass(100), 2);
        due("3 pass(100), lapsed ones do not lapse again", g.pass(100), 0);
        due("3 year", g.count(0), 205);
        due("3 saved", g.count(8), 6);
        refused("3 pass(0)", g, Checks.ARGUMENT, () -> g.pass(0));
        refused("3 pass(-1)", g, Checks.ARGUMENT, () -> g.pass(-1));
        refused("3 pass(101)", g, Checks.ARGUMENT, () -> g.pass(101));
        refused("3 pass(max)", g, Checks.ARGUMENT, () -> g.pass(Integer.MAX_VALUE));
        passYears(g, 1700);
        refused("3 pass(96)", g, Checks.STATE, () -> g.pass(96));
        due("3 pass(95)", g.pass(95), 0);
        due("3 last year", g.count(0), 2000);
        refused("3 pass(1) above 2000", g, Checks.STATE, () -> g.pass(1));
        refused("3 pass(101) above 2000", g, Checks.ARGUMENT, () -> g.pass(101));
    }

    private static void setParish() {
        BurialGround g = new BurialGround();
        due("4 setParish(9, false)", g.setParish(9, false), 1);
        due("4 parish", g.family(9, 0), 0);
        due("4 of another", g.family(8, 0), 1);
        due("4 setParish(9, false) again", g.setParish(9, false), 0);
        due("4 setParish(9, true)", g.setParish(9, true), 0);
        due("4 parish again", g.family(9, 0), 1);
        due("4 fee again", g.fee(9, 1, 1), 30);
        due("4 setParish(0, true)", g.setParish(0, true), 1);
        due("4 saved also without a change", g.count(8), 4);
        for (int family : NO_FAMILIES) {
            refused("4 setParish(" + family + ")", g, Checks.INDEX, () -> g.setParish(family, false));
        }
    }

    private static void bury() {
        BurialGround g = new BurialGround();
        g.setParish(1, false);
        due("5 clay", g.bury(0, 1, 3), 50);
        due("5 above it", g.bury(0, 1, 1), 30);
        due("5 not of the parish", g.bury(1, 2, 2), 80);
        g.reserve(1, 10, 10);
        due("5 reserved, not of the parish", g.bury(1, 10, 1), 55);
        due("5 family", g.burial(10, 1, 0), 1);
        due("5 fee", g.burial(10, 1, 3), 55);
        due("5 paid", g.family(1, 1), 80 + 40 + 55);
        due("5 saved", g.count(8), 6);
        for (int family : NO_FAMILIES) {
            refused("5 family " + family, g, Checks.INDEX, () -> g.bury(family, 9, 0));
        }
        for (int plot : NO_PLOTS) {
            refused("5 plot " + plot, g, Checks.INDEX, () -> g.bury(0, plot, 0));
        }
        for (int depth : NO_DEPTHS) {
            refused("5 depth " + depth, g, Checks.ARGUMENT, () -> g.bury(0, 0, depth));
        }
        refused("5 path", g, Checks.STATE, () -> g.bury(0, 0, 1));
        refused("5 held", g, Checks.STATE, () -> g.bury(0, 2, 1));
        refused("5 same depth", g, Checks.STATE, () -> g.bury(1, 2, 2));
        passYears(g, 30);
        due("5 another family above an old burial", g.bury(0, 2, 1), 30);
        due("5 year", g.burial(2, 1, 1), 30);
        g.bury(0, 8, 3);
        refused("5 not reached", g, Checks.STATE, () -> g.bury(0, 9, 1));
    }

    private static void reserve() {
        BurialGround g = new BurialGround();
        g.setParish(1, false);
        due("6 reserve", g.reserve(0, 39, 50), 100);
        due("6 not of the parish", g.reserve(1, 38, 1), 4);
        due("6 up to", g.plot(39, 6), 50);
        g.pass(1);
        due("6 lengthened", g.reserve(1, 38, 3), 12);
        due("6 lengthened up to", g.plot(38, 6), 4);
        due("6 paid", g.family(1, 1), 16);
        refused("6 another's", g, Checks.STATE, () -> g.reserve(0, 38, 1));
        g.pass(4);
        due("6 a lapsed one anew", g.reserve(1, 38, 2), 8);
        due("6 anew up to", g.plot(38, 6), 7);
        g.pass(3);
        due("6 another's lapsed one", g.reserve(2, 38, 2), 4);
        due("6 now for", g.plot(38, 5), 2);
        due("6 now up to", g.plot(38, 6), 10);
        for (int family : NO_FAMILIES) {
            refused("6 family " + family, g, Checks.INDEX, () -> g.reserve(family, 9, 0));
        }
        for (int plot : NO_PLOTS) {
            refused("6 plot " + plot, g, Checks.INDEX, () -> g.reserve(0, plot, 0));
        }
        refused("6 years 0", g, Checks.ARGUMENT, () -> g.reserve(0, 0, 0));
        refused("6 years 51", g, Checks.ARGUMENT, () -> g.reserve(0, 0, 51));
        refused("6 years max", g, Checks.ARGUMENT, () -> g.reserve(0, 1, Integer.MAX_VALUE));
        refused("6 path", g, Checks.STATE, () -> g.reserve(0, 0, 1));
        g.buildVault(3, 1);
        refused("6 own vault", g, Checks.STATE, () -> g.reserve(3, 1, 1));
        refused("6 another's vault", g, Checks.STATE, () -> g.reserve(4, 1, 1));
        g.bury(5, 8, 3);
        refused("6 another's burial", g, Checks.STATE, () -> g.reserve(4, 8, 1));
        due("6 own burial", g.reserve(5, 8, 1), 2);
        due("6 a plot that is not reached", g.plot(9, 7), 1);
        g.bury(6, 2, 3);
        g.bury(6, 9, 3);
        g.lay(10, ROCK);
        due("6 rock", g.reserve(4, 10, 1), 2);
    }

    private static void buildVault() {
        BurialGround g = new BurialGround();
        g.setParish(1, false);
        g.lay(3, SAND);
        g.lay(4, ROCK);
        g.lay(5, PATH);
        due("7 clay", g.buildVault(0, 1), 100);
        due("7 sand, not of the parish", g.buildVault(1, 3), 200);
        due("7 paid", g.family(1, 1), 200);
        due("7 family", g.plot(3, 4), 1);
        due("7 greatest depth in sand", g.plot(3, 8), 3);
        due("7 greatest depth in clay", g.plot(1, 8), 3);
        g.reserve(2, 6, 10);
        refused("7 another's reservation", g, Checks.STATE, () -> g.buildVault(3, 6));
        due("7 own reservation", g.buildVault(2, 6), 100);
        due("7 reservation is gone", g.plot(6, 5), NONE);
        due("7 its year too", g.plot(6, 6), NONE);
        g.reserve(2, 7, 1);
        g.pass(2);
        due("7 lapsed reservation", g.buildVault(3, 7), 100);
        due("7 lapsed reservation is gone", g.plot(7, 5), NONE);
        for (int family : NO_FAMILIES) {
            refused("7 family " + family, g, Checks.INDEX, () -> g.buildVault(family, 0));
        }
        for (int plot : NO_PLOTS) {
            refused("7 plot " + plot, g, Checks.INDEX, () -> g.buildVault(0, plot));
        }
        refused("7 path", g, Checks.STATE, () -> g.buildVault(0, 5));
        refused("7 gate", g, Checks.STATE, () -> g.buildVault(0, 0));
        refused("7 rock", g, Checks.STATE, () -> g.buildVault(0, 4));
        refused("7 own vault", g, Checks.STATE, () -> g.buildVault(0, 1));
        g.bury(0, 31, 3);
        refused("7 own burial", g, Checks.STATE, () -> g.buildVault(0, 31));
        g.bury(0, 38, 3);
        refused("7 not reached", g, Checks.STATE, () -> g.buildVault(0, 39));
        g.pass(40);
        refused("7 old burial", g, Checks.STATE, () -> g.buildVault(0, 31));
        g.clear(31);
        due("7 reached again", g.buildVault(0, 39), 100);
    }

    private static void clear() {
        BurialGround g = new BurialGround();
        due("8 nothing there", g.clear(1), 0);
        due("8 the gate", g.clear(0), 0);
        due("8 saved also without a change", g.count(8), 2);
        g.reserve(0, 1, 50);
        g.bury(0, 1, 3);
        g.pass(1);
        g.bury(0, 1, 2);
        g.lay(2, SAND);
        g.buildVault(1, 2);
        g.bury(1, 2, 3);
        g.pass(14);
        refused("8 vault in sand, 14 years", g, Checks.STATE, () -> g.clear(2));
        g.pass(1);
        due("8 vault in sand, 15 years", g.clear(2), 1);
        due("8 a vault stays", g.plot(2, 4), 1);
        due("8 its burial is gone", g.burial(2, 3, 0), NONE);
        g.pass(14);
        refused("8 one of two is not old", g, Checks.STATE, () -> g.clear(1));
        g.pass(1);
        due("8 both old", g.clear(1), 2);
        due("8 gone", g.plot(1, 2), 0);
        due("8 the reservation stays", g.plot(1, 5), 0);
        due("8 what was paid stays", g.family(0, 1), 100 + 45 + 35);
        g.lay(3, ROCK);
        g.bury(2, 3, 1);
        g.pass(59);
        refused("8 rock, 59 years", g, Checks.STATE, () -> g.clear(3));
        g.pass(1);
        due("8 rock, 60 years", g.clear(3), 1);
        g.bury(2, 38, 3);
        g.bury(2, 39, 1);
        g.pass(30);
        due("8 one of two neighbours", g.clear(38), 1);
        due("8 the other one stays", g.burial(39, 1, 0), 2);
        due("8 the last plot", g.clear(39), 1);
        for (int plot : NO_PLOTS) {
            refused("8 plot " + plot, g, Checks.INDEX, () -> g.clear(plot));
        }
    }

    private static void append() {
        BurialGround g = new BurialGround();
        due("9 append(33)", g.append(33), 1);
        due("9 append(126)", g.append(126), 2);
        for (int code : new int[] {32, 127, 0, -1, Integer.MIN_VALUE, Integer.MAX_VALUE}) {
            refused("9 append(" + code + ")", g, Checks.ARGUMENT, () -> g.append(code));
        }
        for (int i = 3; i <= 60; i++) {
            due("9 length", g.append('b'), i);
        }
        refused("9 a full buffer", g, Checks.STATE, () -> g.append('b'));
        refused("9 a full buffer, no character", g, Checks.ARGUMENT, () -> g.append(32));
        due("9 is not undoable", g.count(8), 0);
    }

    private static void clearBuffer() {
        BurialGround g = new BurialGround();
        due("10 empty", g.clearBuffer(), 0);
        Checks.write(g, "b1:2,3");
        due("10 six", g.clearBuffer(), 6);
        due("10 empty again", g.clearBuffer(), 0);
        due("10 is not undoable", g.count(8), 0);
    }

    private static void firstError() {
        String[] right = {"", "b", "b5", "b5:", "b5:0", "b5:0,", "b0:39,3", "r9:3,1", "r1:10,4", "r1:10,49", "r1:29,50",
            "r1:4,9;", "b1:1,1;r1:1,1", "b1:1,1;r1:1,1;b", "r1:9,5"};
        for (String text : right) {
            due("11 " + text, errorIn(text), text.length());
        }
        due("11 a", errorIn("a5"), 0);
        due("11 B", errorIn("B5:1,1"), 0);
        due("11 empty entry", errorIn(";"), 0);
        due("11 empty second entry", errorIn("b1:1,1;;"), 7);
        due("11 no family", errorIn("b:"), 1);
        due("11 family 10", errorIn("b10:"), 2);
        due("11 no plot", errorIn("b1:,"), 3);
        due("11 plot 00", errorIn("b1:00"), 4);
        due("11 plot 40", errorIn("b1:40"), 4);
        due("11 plot 390", errorIn("b1:390"), 5);
        due("11 plot letter", errorIn("b1:a"), 3);
        due("11 depth 0", errorIn("b1:1,0"), 5);
        due("11 depth 4", errorIn("b1:1,4"), 5);
        due("11 depth 10", errorIn("b1:1,10"), 6);
        due("11 no depth", errorIn("b1:1,;"), 5);
        due("11 years 0", errorIn("r1:1,0"), 5);
        due("11 years 51", errorIn("r1:1,51"), 6);
        due("11 years 60", errorIn("r1:1,60"), 6);
        due("11 years 500", errorIn("r1:1,500"), 7);
        due("11 years letter", errorIn("r1:1,4/"), 6);
        due("11 years colon", errorIn("r1:1,4:"), 6);
        due("11 the first of two", errorIn("b1:1,4;x"), 5);
        String full = "r1:10,10;r1:10,10;r1:10,10;r1:10,10;r1:10,10;r1:10,10;r1:10,";
        due("11 a full buffer that goes on beyond it", errorIn(full), 60);
    }

    private static int errorIn(String text) {
        BurialGround g = new BurialGround();
        Checks.write(g, text);
        int error = g.firstError();
        due("11 keeps the buffer", g.clearBuffer(), text.length());
        return error;
    }

    private static void load() {
        BurialGround g = new BurialGround();
        for (String text : new String[] {"", "b", "b1:1", "b1:1,", "b1:1,1;", "b1:1,1;;", "x", "b1:1,4", "b1:1,1;r"}) {
            Checks.write(g, text);
            refused("12 " + text, g, Checks.ARGUMENT, () -> g.load());
            due("12 the buffer stays: " + text, g.clearBuffer(), text.length());
        }
        Checks.write(g, "b1:1,3;r2:39,50;b1:1,2");
        due("12 three entries", g.load(), 3);
        due("12 one saved state", g.count(8), 1);
        due("12 the buffer is cleared", g.clearBuffer(), 0);
        due("12 first", g.burial(1, 3, 0), 1);
        due("12 second", g.plot(39, 6), 50);
        due("12 third", g.burial(1, 2, 3), 40);
        due("12 paid", g.count(7), 50 + 100 + 40);
        due("12 undone as one", g.undo(), 0);
        due("12 nothing there", g.count(7), 0);
        due("12 undo leaves the buffer", g.clearBuffer(), 0);
        Checks.write(g, "b1:1,3;b1:1,3;b2:2,3");
        due("12 up to the refused one", g.load(), 1);
        due("12 not those behind it", g.plot(2, 2), 0);
        due("12 cleared though", g.clearBuffer(), 0);
        Checks.write(g, "r3:0,1;b2:2,3");
        due("12 the first one refused", g.load(), 0);
        due("12 saved though", g.count(8), 2);
        due("12 cleared again", g.clearBuffer(), 0);
        Checks.write(g, "r3:1,1");
        due("12 reservation of a held plot", g.load(), 0);
        Checks.write(g, "b2:8,3;b2:16,3");
        due("12 the first one cuts the second one off", g.load(), 1);
        BurialGround h = new BurialGround();
        Checks.write(h, "r4:10,1;r4:11,10;r4:12,10;r4:13,1;r4:14,1;r4:15,1;r4:19,10;r");
        refused("12 sixty characters and a letter", h, Checks.ARGUMENT, () -> h.load());
        Checks.write(h, "r4:10,10;r4:11,10;r4:12,10;r4:13,10;r4:14,10;r4:15,1;r4:1,10");
        due("12 sixty characters", h.load(), 7);
        due("12 seven reservations", h.count(5), 7);
    }

    private static void undo() {
        BurialGround g = new BurialGround();
        refused("13 nothing saved", g, Checks.STATE, () -> g.undo());
        long[] states = new long[9];
        g.lay(5, ROCK);
        states[1] = stateOf(g);
        g.setParish(2, false);
        states[2] = stateOf(g);
        g.reserve(2, 6, 3);
        states[3] = stateOf(g);
        g.reserve(2, 6, 4);
        states[4] = stateOf(g);
        g.buildVault(3, 1);
        states[5] = stateOf(g);
        g.bury(3, 1, 3);
        states[6] = stateOf(g);
        g.pass(40);
        states[7] = stateOf(g);
        g.clear(1);
        due("13 at most six", g.count(8), 6);
        for (int i = 7; i >= 2; i--) {
            due("13 undo to " + i, g.undo(), i - 2);
            due("13 saved states at " + i, g.count(8), i - 2);
            due("13 state " + i, stateOf(g), states[i]);
        }
        due("13 the oldest ones are dropped", g.plot(5, 0), ROCK);
        refused("13 none left", g, Checks.STATE, () -> g.undo());
        g.append('b');
        g.lay(5, CLAY);
        g.append('1');
        due("13 undo lay", g.undo(), 0);
        due("13 kind", g.plot(5, 0), ROCK);
        due("13 the buffer stays", g.clearBuffer(), 2);
    }

    private static void undoOfWaysAndFees() {
        BurialGround g = new BurialGround();
        g.bury(0, 1, 3);
        g.bury(0, 8, 2);
        due("13 cut off", g.count(4), 37);
        g.undo();
        due("13 not cut off any more", g.count(4), 0);
        g.pass(30);
        g.clear(1);
        g.bury(1, 1, 1);
        g.undo();
        g.undo();
        due("13 the burial is back", g.burial(1, 3, 0), 0);
        due("13 its year", g.burial(1, 3, 1), 0);
        due("13 its fee", g.burial(1, 3, 3), 50);
        due("13 not the other one", g.burial(1, 1, 0), NONE);
        for (int i = 0; i < 20; i++) {
            g.setParish(i % 10, i % 3 == 0);
        }
        due("13 six of twenty", g.count(8), 6);
        for (int i = 0; i < 6; i++) {
            g.undo();
        }
        due("13 the first ones stay", g.family(3, 0), 0);
        due("13 the last ones are undone", g.family(9, 0), 1);
        due("13 undone to the first round", g.family(6, 0), 1);
    }

    /** The digest without the number of saved states; wants an empty buffer. */
    private static long stateOf(BurialGround g) {
        long hash = g.digest();
        long power = 1;
        for (int i = 0; i < 40 * 22 + 10 * 7 + 2; i++) {
            power *= 31;
        }
        return hash - power * g.count(8);
    }

    private static void plot() {
        BurialGround g = new BurialGround();
        g.lay(1, SAND);
        g.lay(2, ROCK);
        int[] greatest = {0, 2, 1, 3};
        for (int plot = 0; plot < 4; plot++) {
            due("14 greatest depth of " + plot, g.plot(plot, 8), greatest[plot]);
            due("14 holder of " + plot, g.plot(plot, 1), NONE);
            due("14 vault of " + plot, g.plot(plot, 4), NONE);
            due("14 reservation of " + plot, g.plot(plot, 5), NONE);
            due("14 its year of " + plot, g.plot(plot, 6), NONE);
            due("14 reached " + plot, g.plot(plot, 7), 1);
        }
        g.reserve(4, 3, 2);
        g.bury(4, 3, 3);
        g.pass(3);
        due("14 lapsed, burial holds", g.plot(3, 1), 4);
        due("14 lapsed, still there", g.plot(3, 5), 4);
        due("14 lapsed year", g.plot(3, 6), 2);
        due("14 burials", g.plot(3, 2), 1);
        g.pass(26);
        due("14 not old after 29", g.plot(3, 3), 1);
        g.pass(1);
        due("14 old after 30", g.plot(3, 3), 0);
        due("14 no holder", g.plot(3, 1), NONE);
        g.bury(5, 3, 2);
        g.reserve(5, 3, 40);
        g.bury(5, 3, 1);
        due("14 all burials", g.plot(3, 2), 3);
        due("14 those not old", g.plot(3, 3), 2);
        g.buildVault(6, 1);
        due("14 vault", g.plot(1, 4), 6);
        due("14 vault holds", g.plot(1, 1), 6);
        due("14 vault in sand", g.plot(1, 8), 3);
        for (int plot : NO_PLOTS) {
            refused("14 plot " + plot, g, Checks.INDEX, () -> g.plot(plot, 9));
        }
        refused("14 what -1", g, Checks.ARGUMENT, () -> g.plot(0, -1));
        refused("14 what 9", g, Checks.ARGUMENT, () -> g.plot(0, 9));
    }

    /** The least deep burial that is not old holds, also below an old one of another family. */
    private static void holderOfSeveral() {
        BurialGround g = new BurialGround();
        g.bury(1, 1, 3);
        g.pass(30);
        g.bury(2, 1, 2);
        due("14 above an old one", g.plot(1, 1), 2);
        g.pass(30);
        g.bury(3, 1, 1);
        due("14 the least deep", g.plot(1, 1), 3);
        g.pass(29);
        due("14 the least deep still", g.plot(1, 1), 3);
        g.pass(1);
        due("14 nobody", g.plot(1, 1), NONE);
    }

    private static void reached() {
        BurialGround g = new BurialGround();
        g.bury(0, 1, 3);
        g.bury(0, 9, 3);
        g.bury(0, 16, 3);
        due("14 a corner is reached over its one open neighbour", g.plot(8, 7), 1);
        due("14 a burial with an open way", g.plot(9, 7), 1);
        due("14 next to the gate", g.plot(1, 7), 1);
        due("14 behind burials", g.plot(2, 7), 0);
        due("14 behind burials below", g.plot(24, 7), 0);
        due("14 no way round the edge", g.plot(15, 7), 0);
        due("14 all behind", g.count(4), 35);
        g.bury(0, 8, 3);
        due("14 not over burials", g.plot(9, 7), 0);
        due("14 the gate", g.plot(0, 7), 1);
        BurialGround h = new BurialGround();
        h.bury(0, 6, 3);
        h.bury(0, 14, 3);
        h.bury(0, 22, 3);
        h.bury(0, 30, 3);
        h.pass(1);
        due("14 over the last row", h.plot(7, 7), 1);
        h.bury(0, 38, 3);
        due("14 a last column on its own", h.plot(7, 7), 0);
        due("14 not from the row before", h.plot(15, 7), 0);
        due("14 the first column", h.plot(16, 7), 1);
    }

    private static void burial() {
        BurialGround g = new BurialGround();
        g.pass(7);
        g.bury(4, 1, 2);
        due("15 family", g.burial(1, 2, 0), 4);
        due("15 year", g.burial(1, 2, 1), 7);
        due("15 old", g.burial(1, 2, 2), 0);
        due("15 fee", g.burial(1, 2, 3), 40);
        g.setParish(4, false);
        due("15 fee that was paid then", g.burial(1, 2, 3), 40);
        g.pass(29);
        due("15 not old after 29", g.burial(1, 2, 2), 0);
        g.pass(1);
        due("15 old after 30", g.burial(1, 2, 2), 1);
        for (int what = 0; what <= 3; what++) {
            due("15 none above", g.burial(1, 1, what), NONE);
            due("15 none below", g.burial(1, 3, what), NONE);
            due("15 none in the next", g.burial(2, 1, what), NONE);
        }
        for (int plot : NO_PLOTS) {
            refused("15 plot " + plot, g, Checks.INDEX, () -> g.burial(plot, 1, 4));
        }
        for (int depth : NO_DEPTHS) {
            refused("15 depth " + depth, g, Checks.INDEX, () -> g.burial(1, depth, 4));
        }
        refused("15 what 4", g, Checks.ARGUMENT, () -> g.burial(1, 2, 4));
        refused("15 what -1", g, Checks.ARGUMENT, () -> g.burial(1, 3, -1));
    }

    private static void family() {
        BurialGround g = new BurialGround();
        g.bury(9, 1, 2);
        g.bury(9, 1, 1);
        g.reserve(9, 2, 5);
        g.buildVault(9, 3);
        g.bury(9, 3, 3);
        due("16 parish", g.family(9, 0), 1);
        due("16 paid", g.family(9, 1), 40 + 30 + 10 + 100 + 80);
        due("16 burials so far", g.family(9, 2), 3);
        due("16 burials there", g.family(9, 3), 3);
        due("16 plots held", g.family(9, 4), 3);
        due("16 vaults", g.family(9, 5), 1);
        due("16 another's", g.family(8, 4), 0);
        g.pass(30);
        due("16 held then", g.family(9, 4), 1);
        g.clear(1);
        due("16 burials so far, cleared", g.family(9, 2), 3);
        due("16 burials there, cleared", g.family(9, 3), 1);
        for (int family : NO_FAMILIES) {
            refused("16 family " + family, g, Checks.INDEX, () -> g.family(family, 6));
        }
        refused("16 what 6", g, Checks.ARGUMENT, () -> g.family(0, 6));
        refused("16 what -1", g, Checks.ARGUMENT, () -> g.family(0, -1));
    }

    private static void count() {
        BurialGround g = new BurialGround();
        due("17 free plots", g.count(3), 39);
        g.lay(7, PATH);
        g.bury(0, 1, 3);
        g.bury(1, 8, 3);
        due("17 free plots then", g.count(3), 36);
        due("17 not reached: no paths", g.count(4), 36);
        g.reserve(2, 20, 9);
        g.reserve(3, 21, 10);
        g.pass(10);
        due("17 year", g.count(0), 10);
        due("17 burials", g.count(1), 2);
        due("17 reservations", g.count(5), 1);
        g.pass(19);
        due("17 not old", g.count(2), 2);
        g.pass(1);
        due("17 old", g.count(2), 0);
        due("17 burials still", g.count(1), 2);
        g.clear(1);
        g.buildVault(4, 1);
        g.buildVault(0, 2);
        due("17 vaults", g.count(6), 2);
        due("17 paid", g.count(7), 50 + 50 + 18 + 20 + 200);
        due("17 saved", g.count(8), 6);
        refused("17 what -1", g, Checks.ARGUMENT, () -> g.count(-1));
        refused("17 what 9", g, Checks.ARGUMENT, () -> g.count(9));
    }

    private static void why() {
        BurialGround g = new BurialGround();
        g.lay(1, SAND);
        g.lay(2, ROCK);
        due("18 path", g.why(0, 0, 3), 1);
        due("18 none", g.why(0, 1, 2), 0);
        due("18 sand 3", g.why(0, 1, 3), 3);
        due("18 rock 2", g.why(0, 2, 2), 3);
        due("18 rock 1", g.why(0, 2, 1), 0);
        due("18 clay 3", g.why(0, 3, 3), 0);
        g.reserve(1, 1, 3);
        due("18 held before the depth", g.why(0, 1, 3), 2);
        due("18 own", g.why(1, 1, 2), 0);
        g.bury(1, 1, 2);
        due("18 depth before burials", g.why(1, 1, 3), 3);
        due("18 same depth", g.why(1, 1, 2), 4);
        due("18 above", g.why(1, 1, 1), 0);
        g.bury(2, 8, 1);
        due("18 below one", g.why(2, 8, 3), 4);
        due("18 burials before the way", g.why(2, 8, 1), 4);
        due("18 not reached", g.why(2, 3, 3), 5);
        for (int family : NO_FAMILIES) {
            refused("18 family " + family, g, Checks.INDEX, () -> g.why(family, 0, 0));
        }
        for (int plot : NO_PLOTS) {
            refused("18 plot " + plot, g, Checks.INDEX, () -> g.why(0, plot, 0));
        }
        for (int depth : NO_DEPTHS) {
            refused("18 depth " + depth, g, Checks.ARGUMENT, () -> g.why(0, 0, depth));
        }
    }

    private static void whyOfVaults() {
        BurialGround g = new BurialGround();
        g.lay(1, SAND);
        g.buildVault(0, 1);
        due("18 another's vault", g.why(1, 1, 3), 2);
        due("18 not the deepest place", g.why(0, 1, 2), 7);
        due("18 the deepest place, also in sand", g.why(0, 1, 3), 0);
        g.bury(0, 1, 3);
        due("18 the same year, next place", g.why(0, 1, 2), 6);
        due("18 the years come before the place", g.why(0, 1, 1), 6);
        due("18 the burials come before the years", g.why(0, 1, 3), 4);
        g.pass(1);
        due("18 one year later", g.why(0, 1, 2), 6);
        g.pass(1);
        due("18 two years later", g.why(0, 1, 2), 0);
        due("18 two years later, not the next place", g.why(0, 1, 1), 7);
        g.bury(0, 1, 2);
        g.pass(1);
        due("18 the latest year counts", g.why(0, 1, 1), 6);
        g.bury(1, 8, 3);
        due("18 still beside the gate", g.why(0, 1, 1), 6);
        g.undo();
        g.pass(1);
        g.bury(1, 2, 1);
        due("18 the next plot's year does not count", g.why(0, 1, 1), 0);
        g.buildVault(0, 39);
        due("18 the last plot", g.why(0, 39, 3), 0);
        g.bury(0, 39, 3);
        due("18 the last plot in this year", g.why(0, 39, 2), 6);
        BurialGround h = new BurialGround();
        h.buildVault(0, 2);
        h.bury(0, 2, 3);
        h.bury(1, 1, 3);
        h.bury(1, 8, 3);
        due("18 the way comes before the years", h.why(0, 2, 2), 5);
    }

    private static void fee() {
        BurialGround g = new BurialGround();
        g.setParish(1, false);
        due("19 the gate", g.fee(0, 0, 1), 30);
        due("19 depth 3", g.fee(0, 1, 3), 50);
        due("19 not of the parish", g.fee(1, 1, 3), 100);
        g.buildVault(0, 1);
        due("19 vault", g.fee(0, 1, 2), 70);
        due("19 vault of another, not of the parish", g.fee(1, 1, 2), 140);
        g.reserve(1, 2, 1);
        due("19 own reservation", g.fee(1, 2, 2), 75);
        due("19 another's reservation", g.fee(0, 2, 2), 40);
        g.pass(1);
        due("19 its last year", g.fee(1, 2, 2), 75);
        g.pass(1);
        due("19 lapsed", g.fee(1, 2, 2), 80);
        g.lay(3, ROCK);
        due("19 too deep", g.fee(0, 3, 3), 50);
        for (int family : NO_FAMILIES) {
            refused("19 family " + family, g, Checks.INDEX, () -> g.fee(family, 0, 0));
        }
        for (int plot : NO_PLOTS) {
            refused("19 plot " + plot, g, Checks.INDEX, () -> g.fee(0, plot, 0));
        }
        for (int depth : NO_DEPTHS) {
            refused("19 depth " + depth, g, Checks.ARGUMENT, () -> g.fee(0, 0, depth));
        }
    }

    private static void deepest() {
        BurialGround g = new BurialGround();
        g.lay(2, SAND);
        g.lay(3, ROCK);
        due("20 path", g.deepest(0, 0), NONE);
        due("20 clay", g.deepest(0, 1), 3);
        due("20 sand", g.deepest(0, 2), 2);
        due("20 rock", g.deepest(0, 3), 1);
        g.bury(0, 1, 2);
        due("20 above", g.deepest(0, 1), 1);
        due("20 held", g.deepest(1, 1), NONE);
        g.bury(0, 1, 1);
        due("20 full", g.deepest(0, 1), NONE);
        g.buildVault(4, 8);
        due("20 vault", g.deepest(4, 8), 3);
        g.bury(4, 8, 3);
        due("20 vault of this year", g.deepest(4, 8), NONE);
        due("20 not reached", g.deepest(4, 9), NONE);
        for (int family : NO_FAMILIES) {
            refused("20 family " + family, g, Checks.INDEX, () -> g.deepest(family, 0));
        }
        for (int plot : NO_PLOTS) {
            refused("20 plot " + plot, g, Checks.INDEX, () -> g.deepest(0, plot));
        }
    }

    private static void bestPlot() {
        BurialGround g = new BurialGround();
        due("21 the lowest", g.bestPlot(0), 1);
        g.lay(1, PATH);
        due("21 no path", g.bestPlot(0), 2);
        g.bury(0, 2, 3);
        due("21 fewer burials", g.bestPlot(0), 3);
        g.reserve(0, 30, 1);
        due("21 the least fee", g.bestPlot(0), 30);
        due("21 of another", g.bestPlot(1), 3);
        g.reserve(0, 2, 9);
        due("21 fewer burials at the same fee", g.bestPlot(0), 30);
        g.bury(0, 30, 3);
        due("21 the lowest of two with one burial", g.bestPlot(0), 2);
        g.bury(0, 30, 2);
        due("21 the less full one", g.bestPlot(0), 2);
        g.lay(20, ROCK);
        g.reserve(3, 20, 1);
        due("21 rock", g.bestPlot(3), 20);
        BurialGround h = new BurialGround();
        h.buildVault(0, 1);
        due("21 a vault costs more", h.bestPlot(0), 2);
        h.bury(1, 8, 3);
        due("21 only the vault", h.bestPlot(0), 2);
        h.bury(1, 16, 3);
        h.bury(1, 9, 3);
        h.bury(1, 2, 3);
        due("21 only the vault is left", h.bestPlot(0), 1);
        due("21 the lowest of its own that are reached", h.bestPlot(1), 2);
        due("21 none", h.bestPlot(2), NONE);
        for (int family : NO_FAMILIES) {
            refused("21 family " + family, g, Checks.INDEX, () -> g.bestPlot(family));
        }
    }

    private static void yearFor() {
        BurialGround g = new BurialGround();
        due("22 now", g.yearFor(0, 1, 3), 0);
        due("22 path", g.yearFor(0, 0, 3), NONE);
        g.lay(3, ROCK);
        due("22 too deep", g.yearFor(0, 3, 2), NONE);
        g.reserve(0, 2, 40);
        due("22 when a reservation lapses", g.yearFor(1, 2, 3), 41);
        g.reserve(0, 2, 50);
        g.bury(0, 3, 1);
        due("22 rock, burial at that depth", g.yearFor(0, 3, 1), NONE);
        g.bury(0, 1, 3);
        due("22 when a burial is old", g.yearFor(1, 1, 2), 30);
        due("22 own", g.yearFor(0, 1, 2), 0);
        due("22 below", g.yearFor(1, 1, 3), NONE);
        due("22 at 91", g.yearFor(1, 2, 3), 91);
        g.reserve(0, 2, 9);
        due("22 at 100", g.yearFor(1, 2, 3), 100);
        g.reserve(0, 2, 1);
        due("22 not at 101", g.yearFor(1, 2, 3), NONE);
        g.pass(1);
        due("22 at 101, from 1 on", g.yearFor(1, 2, 3), 101);
        g.buildVault(5, 8);
        g.bury(5, 8, 3);
        due("22 the next in a vault", g.yearFor(5, 8, 2), 3);
        due("22 not the next place in a vault", g.yearFor(5, 8, 1), NONE);
        due("22 not reached", g.yearFor(7, 9, 1), NONE);
        BurialGround h = new BurialGround();
        passYears(h, 2000);
        h.bury(0, 1, 2);
        due("22 above 2000", h.yearFor(1, 1, 1), 2030);
        h.reserve(0, 1, 50);
        due("22 above 2000, reserved", h.yearFor(1, 1, 1), 2051);
        for (int family : NO_FAMILIES) {
            refused("22 family " + family, g, Checks.INDEX, () -> g.yearFor(family, 0, 0));
        }
        for (int plot : NO_PLOTS) {
            refused("22 plot " + plot, g, Checks.INDEX, () -> g.yearFor(0, plot, 0));
        }
        for (int depth : NO_DEPTHS) {
            refused("22 depth " + depth, g, Checks.ARGUMENT, () -> g.yearFor(0, 0, depth));
        }
    }

    private static void clearYear() {
        BurialGround g = new BurialGround();
        due("23 no burials", g.clearYear(1), 0);
        g.pass(5);
        due("23 no burials then", g.clearYear(1), 5);
        due("23 the gate", g.clearYear(0), 5);
        g.bury(0, 1, 3);
        due("23 one", g.clearYear(1), 35);
        g.pass(2);
        g.bury(0, 1, 1);
        due("23 the latest", g.clearYear(1), 37);
        g.lay(2, SAND);
        g.lay(3, ROCK);
        g.bury(1, 2, 2);
        g.bury(1, 3, 1);
        due("23 sand", g.clearYear(2), 22);
        due("23 rock", g.clearYear(3), 67);
        g.pass(50);
        due("23 old ones: now", g.clearYear(1), 57);
        passYears(g, 1943);
        g.bury(1, 4, 1);
        due("23 above 2000", g.clearYear(4), 2030);
        for (int plot : NO_PLOTS) {
            refused("23 plot " + plot, g, Checks.INDEX, () -> g.clearYear(plot));
        }
    }

    private static void cutsOff() {
        BurialGround g = new BurialGround();
        due("24 the gate", g.cutsOff(0), 39);
        due("24 beside the gate", g.cutsOff(1), 0);
        g.bury(0, 8, 3);
        due("24 the only way", g.cutsOff(1), 37);
        due("24 a burial", g.cutsOff(8), 0);
        g.lay(1, PATH);
        due("24 the only way, a path", g.cutsOff(1), 37);
        due("24 the gate with a path", g.cutsOff(0), 38);
        g.bury(0, 10, 3);
        g.lay(3, PATH);
        due("24 to all but 9", g.cutsOff(2), 0);
        g.bury(0, 9, 3);
        due("24 to all but those beside 1", g.cutsOff(2), 34);
        due("24 from there on", g.cutsOff(3), 33);
        due("24 the corner", g.cutsOff(39), 0);
        g.bury(0, 31, 3);
        due("24 to the corner", g.cutsOff(38), 1);
        g.bury(0, 38, 3);
        due("24 not reached already", g.cutsOff(30), 0);
        due("24 the gate, but for those not reached", g.cutsOff(0), 36);
        for (int plot : NO_PLOTS) {
            refused("24 plot " + plot, g, Checks.INDEX, () -> g.cutsOff(plot));
        }
    }

    private static void meanFee() {
        BurialGround g = new BurialGround();
        due("25 none", Double.doubleToLongBits(g.meanFee()), 0);
        g.bury(0, 1, 3);
        due("25 one", Double.doubleToLongBits(g.meanFee()), Double.doubleToLongBits(50.0));
        g.bury(0, 2, 2);
        g.bury(0, 3, 2);
        due("25 three", Double.doubleToLongBits(g.meanFee()), Double.doubleToLongBits(130.0 / 3));
        g.reserve(0, 4, 9);
        due("25 burials alone", Double.doubleToLongBits(g.meanFee()), Double.doubleToLongBits(130.0 / 3));
        g.pass(30);
        g.clear(1);
        due("25 those that are there", Double.doubleToLongBits(g.meanFee()), Double.doubleToLongBits(40.0));
    }

    /** AnswersBoundaryTest says what the hash is; here: it tells states from one another, and only states. */
    private static void digest() {
        BurialGround g = new BurialGround();
        long first = g.digest();
        due("26 another new one", new BurialGround().digest(), first);
        due("26 asked again", g.digest(), first);
        g.append('b');
        due("26 another buffer", g.digest() == first ? 1 : 0, 0);
        g.clearBuffer();
        due("26 the same buffer again", g.digest(), first);
        g.setParish(3, false);
        long second = g.digest();
        due("26 another parish", second == first ? 1 : 0, 0);
        g.bury(3, 1, 3);
        due("26 another burial", g.digest() == second ? 1 : 0, 0);
        g.undo();
        due("26 undone", g.digest(), second);
        g.undo();
        due("26 all undone", g.digest(), first);
    }

    public static void main(String[] args) {
        newObject();
        lay();
        pass();
        setParish();
        bury();
        reserve();
        buildVault();
        clear();
        append();
        clearBuffer();
        firstError();
        load();
        undo();
        undoOfWaysAndFees();
        plot();
        holderOfSeveral();
        reached();
        burial();
        family();
        count();
        why();
        whyOfVaults();
        fee();
        deepest();
        bestPlot();
        yearFor();
        clearYear();
        cutsOff();
        meanFee();
        digest();
        Checks.end();
    }
}
