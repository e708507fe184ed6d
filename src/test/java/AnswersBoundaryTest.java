import java.util.ArrayList;
import java.util.List;

/** The boundary cases of the promises 14 to 26: what there is, and what would be. */
public final class AnswersBoundaryTest extends Boundary {
    private static final Preparation LAST_YEAR = g -> passYears(g, 2000);
    /** Both plots at the gate are closed at depth 1, so that nobody can be buried there any more. */
    private static final Preparation FULL_AT_GATE = g -> {
        g.bury(9, 8, 1);
        g.bury(9, 1, 1);
    };

    private AnswersBoundaryTest() {
    }

    private static Call property(int plot, int what) {
        return g -> g.plot(plot, what);
    }

    // ---- all questions

    private static void questionsChangeNothing() {
        sentence("Terms", "what would be; nothing is changed");
        Preparation rich = g -> {
            g.setParish(3, false);
            g.buildVault(3, 1);
            g.bury(3, 1, 3);
            g.reserve(4, 20, 3);
            g.bury(4, 20, 2);
            g.pass(2);
            g.bury(5, 8, 3);
            write(g, "b0:1,1;r");
        };
        for (int plot = 0; plot < 40; plot++) {
            BurialGround asked = ready(rich);
            for (int depth = 1; depth <= 3; depth++) {
                for (int family = 0; family <= 9; family++) {
                    askOfBurial(asked, family, plot, depth);
                }
            }
            asked.clearYear(plot);
            asked.cutsOff(plot);
            asked.meanFee();
            asked.firstError();
            asked.digest();
            sameGrounds("all questions of " + plot, asked, ready(rich));
        }
    }

    private static void askOfBurial(BurialGround asked, int family, int plot, int depth) {
        asked.why(family, plot, depth);
        asked.fee(family, plot, depth);
        asked.deepest(family, plot);
        asked.bestPlot(family);
        asked.yearFor(family, plot, depth);
        asked.plot(plot, depth);
        asked.burial(plot, depth, depth);
        asked.family(family, depth);
        asked.count(depth);
    }

    // ---- promise 14

    private static void plot() {
        sentence("Promise 14, plot", "0: kind; 1: holder, NONE if there is none; 2: burials; 3: burials that are not"
            + " old; 4: the family of its vault, NONE if it is none; 5: the family of its reservation (also a lapsed"
            + " one), NONE if there is none; 6: the year up to which it is reserved, NONE likewise; 7: 1 if it is"
            + " reached, else 0; 8: the greatest depth, 0 for a path");
        properties("nothing in it", NOTHING, CLAY, NONE, 0, 0, NONE, NONE, NONE, 1, 3);
        properties("a path", g -> g.lay(20, PATH), PATH, NONE, 0, 0, NONE, NONE, NONE, 1, 0);
        properties("sand", g -> g.lay(20, SAND), SAND, NONE, 0, 0, NONE, NONE, NONE, 1, 2);
        properties("rock", g -> g.lay(20, ROCK), ROCK, NONE, 0, 0, NONE, NONE, NONE, 1, 1);
        Preparation three = g -> {
            g.bury(0, 20, 3);
            g.pass(1);
            g.bury(0, 20, 2);
            g.pass(1);
            g.bury(0, 20, 1);
        };
        properties("three burials", three, CLAY, 0, 3, 3, NONE, NONE, NONE, 1, 3);
        properties("three burials, all in rest", later(three, 27), CLAY, 0, 3, 3, NONE, NONE, NONE, 1, 3);
        properties("three burials, one old", later(three, 28), CLAY, 0, 3, 2, NONE, NONE, NONE, 1, 3);
        properties("three burials, two old", later(three, 29), CLAY, 0, 3, 1, NONE, NONE, NONE, 1, 3);
        properties("three burials, all old", later(three, 30), CLAY, NONE, 3, 0, NONE, NONE, NONE, 1, 3);
        properties("cleared", then(later(three, 30), g -> g.clear(20)), CLAY, NONE, 0, 0, NONE, NONE, NONE, 1, 3);
        Preparation reserved = g -> g.reserve(0, 20, 9);
        properties("reserved", reserved, CLAY, 0, 0, 0, NONE, 0, 9, 1, 3);
        properties("reserved, its last year", later(reserved, 9), CLAY, 0, 0, 0, NONE, 0, 9, 1, 3);
        properties("reserved, lapsed", later(reserved, 10), CLAY, NONE, 0, 0, NONE, 0, 9, 1, 3);
        properties("vault in sand", g -> {
            g.lay(20, SAND);
            g.reserve(0, 20, 9);
            g.buildVault(0, 20);
        }, SAND, 0, 0, 0, 0, NONE, NONE, 1, 3);
        properties("not reached", SHUT, CLAY, NONE, 0, 0, NONE, NONE, NONE, 0, 3);
        properties("not reached, reserved", thenAll(reserved, SHUT), CLAY, 0, 0, 0, NONE, 0, 9, 0, 3);
    }

    private static void properties(String what, Preparation preparation, int... due) {
        for (int i = 0; i < due.length; i++) {
            onlyTells(what + ", plot(20, " + i + ")", preparation, property(20, i), due[i]);
        }
    }

    private static void plotWrongly() {
        sentence("Promise 14, plot", "Throws `IndexOutOfBoundsException` if there is no such plot");
        for (int what = 0; what <= 8; what++) {
            int property = what;
            answers("plot 0", NOTHING, property(0, what), new int[] {3, NONE, 0, 0, NONE, NONE, NONE, 1, 0}[what]);
            answers("plot 39", NOTHING, property(39, what), new int[] {0, NONE, 0, 0, NONE, NONE, NONE, 1, 3}[what]);
            refusesBeside("plot, " + what, NOTHING, 0, 39, (g, plot) -> g.plot(plot, property), INDEX);
        }
        sentence("Promise 14, plot", "Throws `IllegalArgumentException` if what is not 0 to 8");
        range("what", g -> g.reserve(0, 20, 9), 0, 8, (g, what) -> g.plot(20, what),
            what -> new int[] {0, 0, 0, 0, NONE, 0, 9, 1, 3}[what], ARGUMENT);
        refusesBeside("what, gate", NOTHING, 0, 8, (g, what) -> g.plot(0, what), ARGUMENT);
    }

    // ---- promise 15

    private static void burial() {
        sentence("Promise 15, burial", "0: family; 1: year; 2: 1 if it is old, else 0; 3: the fee that was paid");
        Preparation buried = g -> {
            g.pass(4);
            g.bury(0, 20, 2);
        };
        Preparation paid = then(buried, g -> g.setParish(0, false));
        int[] due = {0, 4, 0, 40};
        for (int what = 0; what <= 3; what++) {
            int property = what;
            onlyTells("burial(20, 2, " + what + ")", buried, g -> g.burial(20, 2, property), due[what]);
            onlyTells("paid before it left the parish, " + what, paid, g -> g.burial(20, 2, property), due[what]);
        }
        answers("its last year of rest", later(buried, 29), g -> g.burial(20, 2, 2), 0);
        answers("old", later(buried, 30), g -> g.burial(20, 2, 2), 1);
        answers("the fee of an old one", later(buried, 30), g -> g.burial(20, 2, 3), 40);
        sentence("Promise 15, burial", "Returns the property; NONE if there is none.");
        for (int what = 0; what <= 3; what++) {
            int property = what;
            answers("above it, " + what, buried, g -> g.burial(20, 1, property), NONE);
            answers("below it, " + what, buried, g -> g.burial(20, 3, property), NONE);
            answers("the plot before it, " + what, buried, g -> g.burial(19, 2, property), NONE);
            answers("the plot behind it, " + what, buried, g -> g.burial(21, 2, property), NONE);
            answers("cleared, " + what, then(later(buried, 30), g -> g.clear(20)), g -> g.burial(20, 2, property),
                NONE);
            answers("undone, " + what, then(buried, g -> g.undo()), g -> g.burial(20, 2, property), NONE);
            answers("a path, " + what, NOTHING, g -> g.burial(0, 3, property), NONE);
        }
    }

    private static void burialWrongly() {
        sentence("Promise 15, burial",
            "Throws `IndexOutOfBoundsException` if there is no such plot, or depth is not 1 to 3");
        range("plot", NOTHING, 0, 39, (g, plot) -> g.burial(plot, 1, 0), plot -> NONE, INDEX);
        range("plot, the deepest", NOTHING, 0, 39, (g, plot) -> g.burial(plot, 3, 3), plot -> NONE, INDEX);
        Preparation three = g -> {
            g.bury(1, 20, 3);
            g.bury(1, 20, 2);
            g.bury(1, 20, 1);
        };
        range("depth", three, 1, 3, (g, depth) -> g.burial(20, depth, 3), depth -> 10 * depth + 20, INDEX);
        range("depth in rock", g -> g.lay(20, ROCK), 1, 3, (g, depth) -> g.burial(20, depth, 0), depth -> NONE, INDEX);
        sentence("Promise 15, burial", "Throws `IllegalArgumentException` if what is not 0 to 3");
        range("what", three, 0, 3, (g, what) -> g.burial(20, 1, what), what -> new int[] {1, 0, 0, 30}[what], ARGUMENT);
        refusesBeside("what, no burial there", NOTHING, 0, 3, (g, what) -> g.burial(20, 1, what), ARGUMENT);
    }

    // ---- promise 16

    private static void family() {
        sentence("Promise 16, family", "0: 1 if it is of the parish, else 0; 1: what it paid so far; 2: burials so far"
            + " (cleared ones, too); 3: its burials that are there; 4: plots that it holds; 5: vaults");
        ofFamily("new", NOTHING, 1, 0, 0, 0, 0, 0);
        ofFamily("not of the parish", g -> g.setParish(9, false), 0, 0, 0, 0, 0, 0);
        Preparation buried = g -> {
            g.bury(9, 20, 3);
            g.bury(9, 20, 2);
            g.bury(9, 39, 1);
        };
        ofFamily("three burials in two plots", buried, 1, 120, 3, 3, 2, 0);
        ofFamily("its last year of rest", later(buried, 29), 1, 120, 3, 3, 2, 0);
        ofFamily("all old", later(buried, 30), 1, 120, 3, 3, 0, 0);
        Preparation cleared = then(later(buried, 30), g -> g.clear(20));
        ofFamily("two cleared", cleared, 1, 120, 3, 1, 0, 0);
        ofFamily("clear undone", then(cleared, g -> g.undo()), 1, 120, 3, 3, 0, 0);
        ofFamily("a burial undone", then(buried, g -> g.undo()), 1, 90, 2, 2, 1, 0);
        ofFamily("buried anew", then(cleared, g -> g.bury(9, 20, 3)), 1, 170, 4, 2, 1, 0);
        Preparation reserved = g -> g.reserve(9, 20, 9);
        ofFamily("a reservation", reserved, 1, 18, 0, 0, 1, 0);
        ofFamily("a reservation, its last year", later(reserved, 9), 1, 18, 0, 0, 1, 0);
        ofFamily("a reservation, lapsed", later(reserved, 10), 1, 18, 0, 0, 0, 0);
        ofFamily("a vault in it", then(reserved, g -> g.buildVault(9, 20)), 1, 118, 0, 0, 1, 1);
        ofFamily("two vaults", g -> {
            g.buildVault(9, 1);
            g.buildVault(9, 39);
        }, 1, 200, 0, 0, 2, 2);
        ofFamily("of another family alone", g -> {
            g.setParish(8, false);
            g.buildVault(8, 1);
            g.bury(8, 39, 1);
            g.reserve(0, 20, 1);
        }, 1, 0, 0, 0, 0, 0);
        ofFamily("a refused burial", g -> endingOf(g, x -> x.bury(9, 0, 1)), 1, 0, 0, 0, 0, 0);
        Preparation neighbours = g -> {
            g.bury(8, 1, 3);
            g.bury(7, 2, 3);
            g.buildVault(8, 3);
            g.bury(8, 3, 3);
            g.reserve(7, 4, 1);
        };
        int[] ofSeven = {1, 52, 1, 1, 2, 0};
        int[] ofEight = {1, 230, 2, 2, 2, 1};
        for (int what = 0; what <= 5; what++) {
            int property = what;
            onlyTells("two families, family(7, " + what + ")", neighbours, g -> g.family(7, property), ofSeven[what]);
            onlyTells("two families, family(8, " + what + ")", neighbours, g -> g.family(8, property), ofEight[what]);
            onlyTells("neither, family(6, " + what + ")", neighbours, g -> g.family(6, property), what == 0 ? 1 : 0);
        }
        ofFamily("neither", neighbours, 1, 0, 0, 0, 0, 0);
        ofFamily("every plot reserved", g -> {
            for (int plot = 1; plot < 40; plot++) {
                g.reserve(9, plot, 1);
            }
        }, 1, 78, 0, 0, 39, 0);
    }

    private static void ofFamily(String what, Preparation preparation, int... due) {
        for (int i = 0; i < due.length; i++) {
            int property = i;
            onlyTells(what + ", family(9, " + i + ")", preparation, g -> g.family(9, property), due[i]);
        }
    }

    private static void familyWrongly() {
        sentence("Promise 16, family", "Throws `IndexOutOfBoundsException` if there is no such family");
        for (int what = 0; what <= 5; what++) {
            int property = what;
            range("family, " + what, NOTHING, 0, 9, (g, family) -> g.family(family, property),
                family -> property == 0 ? 1 : 0, INDEX);
        }
        sentence("Promise 16, family", "Throws `IllegalArgumentException` if what is not 0 to 5");
        range("what", g -> g.buildVault(0, 1), 0, 5, (g, what) -> g.family(0, what),
            what -> new int[] {1, 100, 0, 0, 1, 1}[what], ARGUMENT);
    }

    // ---- promise 17

    private static void count() {
        sentence("Promise 17, count", "0: year; 1: burials that are there; 2: those that are not old; 3: plots that are"
            + " not paths and have no burials; 4: plots (no paths) that are not reached; 5: reservations that have not"
            + " lapsed; 6: vaults; 7: what all families paid so far; 8: saved states");
        counts("new", NOTHING, 0, 0, 0, 39, 0, 0, 0, 0, 0);
        counts("the last year", LAST_YEAR, 2000, 0, 0, 39, 0, 0, 0, 0, 6);
        Preparation buried = g -> {
            g.bury(0, 39, 3);
            g.bury(0, 39, 2);
            g.bury(9, 1, 1);
        };
        counts("burials", buried, 0, 3, 3, 37, 0, 0, 0, 120, 3);
        counts("burials, the last year of rest", later(buried, 29), 29, 3, 3, 37, 0, 0, 0, 120, 4);
        counts("burials, old", later(buried, 30), 30, 3, 0, 37, 0, 0, 0, 120, 4);
        counts("one cleared", then(later(buried, 30), g -> g.clear(1)), 30, 2, 0, 38, 0, 0, 0, 120, 5);
        counts("paths", g -> {
            g.lay(1, PATH);
            g.lay(39, PATH);
        }, 0, 0, 0, 37, 0, 0, 0, 0, 2);
        counts("all behind is not reached", SHUT, 0, 2, 2, 37, 37, 0, 0, 100, 2);
        counts("paths behind do not count", thenAll(g -> g.lay(39, PATH), SHUT), 0, 2, 2, 36, 36, 0, 0, 100, 3);
        counts("burials behind count", thenAll(g -> g.bury(0, 39, 3), SHUT), 0, 3, 3, 36, 37, 0, 0, 150, 3);
        Preparation reserved = g -> {
            g.reserve(0, 39, 9);
            g.reserve(9, 1, 10);
        };
        counts("reservations", reserved, 0, 0, 0, 39, 0, 2, 0, 38, 2);
        counts("reservations, the last year of one", later(reserved, 9), 9, 0, 0, 39, 0, 2, 0, 38, 3);
        counts("reservations, one lapsed", later(reserved, 10), 10, 0, 0, 39, 0, 1, 0, 38, 3);
        counts("reservations, both lapsed", later(reserved, 11), 11, 0, 0, 39, 0, 0, 0, 38, 3);
        counts("vaults", g -> {
            g.buildVault(0, 39);
            g.buildVault(9, 1);
        }, 0, 0, 0, 39, 0, 0, 2, 200, 2);
        counts("a vault in a reservation", then(reserved, g -> g.buildVault(0, 39)), 0, 0, 0, 39, 0, 1, 1, 138, 3);
        counts("undone", then(then(reserved, g -> g.buildVault(0, 39)), g -> g.undo()), 0, 0, 0, 39, 0, 2, 0, 38, 2);
        counts("full but for the ways", fullButForWays(), 0, 48, 48, 23, 0, 0, 0, 16 * 120, 6);
    }

    /** Sixteen plots with three burials each, in every other column; all plots are reached. */
    private static Preparation fullButForWays() {
        int[] plots = {1, 9, 17, 25, 11, 19, 27, 35, 5, 13, 21, 29, 15, 23, 31, 39};
        return g -> {
            for (int depth = 3; depth >= 1; depth--) {
                for (int plot : plots) {
                    g.bury(plot % 10, plot, depth);
                }
            }
        };
    }

    private static void counts(String what, Preparation preparation, int... due) {
        for (int i = 0; i < due.length; i++) {
            int number = i;
            onlyTells(what + ", count(" + i + ")", preparation, g -> g.count(number), due[i]);
        }
    }

    private static void countWrongly() {
        sentence("Promise 17, count", "Throws `IllegalArgumentException` if what is not 0 to 8");
        range("what", g -> g.pass(5), 0, 8, (g, what) -> g.count(what),
            what -> new int[] {5, 0, 0, 39, 0, 0, 0, 0, 1}[what], ARGUMENT);
    }

    // ---- promise 18

    private static void why() {
        sentence("Promise 18, why", "Returns the reason; 0 if it would not be refused.");
        onlyTells("not refused", NOTHING, g -> g.why(9, 39, 3), 0);
        onlyTells("1", NOTHING, g -> g.why(9, 0, 3), 1);
        onlyTells("2", g -> g.reserve(0, 39, 1), g -> g.why(9, 39, 3), 2);
        onlyTells("3", g -> g.lay(39, SAND), g -> g.why(9, 39, 3), 3);
        onlyTells("4", g -> g.bury(9, 39, 3), g -> g.why(9, 39, 3), 4);
        onlyTells("5", SHUT, g -> g.why(9, 39, 3), 5);
        Preparation vault = g -> {
            g.buildVault(9, 39);
            g.bury(9, 39, 3);
        };
        onlyTells("6", later(vault, 1), g -> g.why(9, 39, 1), 6);
        onlyTells("7", later(vault, 2), g -> g.why(9, 39, 1), 7);
        onlyTells("not refused in a vault", later(vault, 2), g -> g.why(9, 39, 2), 0);
        sentence("Promise 18, why", "Throws `IndexOutOfBoundsException` if there is no such family or plot");
        range("family", NOTHING, 0, 9, (g, family) -> g.why(family, 1, 1), family -> 0, INDEX);
        range("plot", NOTHING, 0, 39, (g, plot) -> g.why(0, plot, 1), plot -> plot == 0 ? 1 : 0, INDEX);
        sentence("Promise 18, why", "Throws `IllegalArgumentException` if depth is out of range");
        range("depth", g -> g.lay(1, ROCK), 1, 3, (g, depth) -> g.why(0, 1, depth), depth -> depth == 1 ? 0 : 3,
            ARGUMENT);
        range("depth of a path", NOTHING, 1, 3, (g, depth) -> g.why(0, 0, depth), depth -> 1, ARGUMENT);
    }

    // ---- promise 19

    private static void fee() {
        sentence("Promise 19, fee", "Tells what a burial would cost now, whatever refuses it.");
        onlyTells("not refused", NOTHING, g -> g.fee(9, 39, 3), 50);
        onlyTells("1, a path", NOTHING, g -> g.fee(9, 0, 3), 50);
        onlyTells("2, another's reservation", g -> g.reserve(0, 39, 1), g -> g.fee(9, 39, 3), 50);
        onlyTells("2, another's vault", g -> g.buildVault(0, 39), g -> g.fee(9, 39, 3), 80);
        onlyTells("3, too deep", g -> g.lay(39, ROCK), g -> g.fee(9, 39, 3), 50);
        onlyTells("4, a burial there", g -> g.bury(9, 39, 1), g -> g.fee(9, 39, 3), 50);
        onlyTells("5, not reached", SHUT, g -> g.fee(9, 39, 3), 50);
        onlyTells("7, not the deepest place", g -> g.buildVault(9, 39), g -> g.fee(9, 39, 1), 60);
        Preparation vault = g -> {
            g.buildVault(9, 39);
            g.bury(9, 39, 3);
        };
        onlyTells("6, this year", vault, g -> g.fee(9, 39, 2), 70);
        sentence("Promise 19, fee", "Throws `IndexOutOfBoundsException` if there is no such family or plot");
        range("family", NOTHING, 0, 9, (g, family) -> g.fee(family, 1, 1), family -> 30, INDEX);
        range("plot", NOTHING, 0, 39, (g, plot) -> g.fee(0, plot, 1), plot -> 30, INDEX);
        sentence("Promise 19, fee", "Throws `IllegalArgumentException` if depth is out of range");
        range("depth", NOTHING, 1, 3, (g, depth) -> g.fee(0, 1, depth), depth -> 10 * depth + 20, ARGUMENT);
        range("depth of a path", NOTHING, 1, 3, (g, depth) -> g.fee(0, 0, depth), depth -> 10 * depth + 20, ARGUMENT);
    }

    // ---- promise 20

    private static void deepest() {
        sentence("Promise 20, deepest", "Returns the depth; NONE if there is none.");
        Call deepest = g -> g.deepest(4, 20);
        onlyTells("clay", NOTHING, deepest, 3);
        onlyTells("sand", g -> g.lay(20, SAND), deepest, 2);
        onlyTells("rock", g -> g.lay(20, ROCK), deepest, 1);
        onlyTells("a path", g -> g.lay(20, PATH), deepest, NONE);
        onlyTells("the gate", NOTHING, g -> g.deepest(4, 0), NONE);
        onlyTells("one at 3", g -> g.bury(4, 20, 3), deepest, 2);
        onlyTells("one at 2", g -> g.bury(4, 20, 2), deepest, 1);
        onlyTells("one at 1", g -> g.bury(4, 20, 1), deepest, NONE);
        Preparation others = g -> g.bury(5, 20, 3);
        onlyTells("another's, its last year of rest", later(others, 29), deepest, NONE);
        onlyTells("another's, old", later(others, 30), deepest, 2);
        Preparation reserved = g -> g.reserve(5, 20, 3);
        onlyTells("another's reservation, its last year", later(reserved, 3), deepest, NONE);
        onlyTells("another's reservation, lapsed", later(reserved, 4), deepest, 3);
        onlyTells("not reached", SHUT, deepest, NONE);
        onlyTells("an empty vault in sand", g -> {
            g.lay(20, SAND);
            g.buildVault(4, 20);
        }, deepest, 3);
        Preparation vault = g -> {
            g.buildVault(4, 20);
            g.bury(4, 20, 3);
        };
        onlyTells("a vault, 1 year later", later(vault, 1), deepest, NONE);
        onlyTells("a vault, 2 years later", later(vault, 2), deepest, 2);
        onlyTells("another's vault", later(vault, 2), g -> g.deepest(5, 20), NONE);
        sentence("Promise 20, deepest", "Throws `IndexOutOfBoundsException` if there is no such family or plot");
        range("family", NOTHING, 0, 9, (g, family) -> g.deepest(family, 1), family -> 3, INDEX);
        range("plot", NOTHING, 0, 39, (g, plot) -> g.deepest(0, plot), plot -> plot == 0 ? NONE : 3, INDEX);
    }

    // ---- promise 21

    private static void bestPlot() {
        sentence("Promise 21, bestPlot", "Returns the plot in which it may bury now at some depth, with the least fee"
            + " of these depths, of several the one with fewer burials, of several the lowest one; NONE if there is"
            + " none.");
        Call best = g -> g.bestPlot(4);
        onlyTells("the lowest one", NOTHING, best, 1);
        onlyTells("no path", g -> g.lay(1, PATH), best, 2);
        onlyTells("fewer burials", g -> g.bury(4, 1, 3), best, 2);
        onlyTells("not another's", g -> g.reserve(5, 1, 1), best, 2);
        Preparation last = g -> g.reserve(4, 39, 5);
        onlyTells("the least fee, the last plot", last, best, 39);
        onlyTells("the least fee, its last year", later(last, 5), best, 39);
        onlyTells("the least fee, lapsed", later(last, 6), best, 1);
        onlyTells("the least fee, not of the parish", then(last, g -> g.setParish(4, false)), best, 39);
        onlyTells("the least fee before fewer burials", then(last, g -> g.bury(4, 39, 2)), best, 39);
        onlyTells("the least fee, but full", then(last, g -> g.bury(4, 39, 1)), best, 1);
        Preparation two = then(last, g -> g.reserve(4, 20, 5));
        onlyTells("the lowest one of two", two, best, 20);
        onlyTells("fewer burials of two", then(two, g -> g.bury(4, 20, 3)), best, 39);
        Preparation both = then(then(two, g -> g.bury(4, 20, 3)), g -> g.bury(4, 39, 3));
        onlyTells("the lowest one of two with one burial", both, best, 20);
        onlyTells("one burial before two", then(both, g -> g.bury(4, 20, 2)), best, 39);
        onlyTells("the lowest one of two with two", then(then(both, g -> g.bury(4, 20, 2)), g -> g.bury(4, 39, 2)),
            best, 20);
        Preparation old = then(later(g -> g.bury(9, 20, 3), 30), g -> g.reserve(4, 39, 9));
        onlyTells("an old burial is one, too", then(old, g -> g.reserve(4, 20, 9)), best, 39);
        Preparation oldAndNew = then(then(old, g -> g.reserve(4, 20, 9)), g -> g.bury(4, 39, 3));
        onlyTells("an old burial is as much as a new one", oldAndNew, best, 20);
        onlyTells("two new ones are more than an old one", then(oldAndNew, g -> g.bury(4, 39, 2)), best, 20);
        Preparation vaults = g -> {
            g.buildVault(4, 1);
            g.buildVault(4, 8);
            for (int plot : new int[] {16, 9, 2}) {
                g.bury(9, plot, 1);
            }
        };
        Preparation opened = later(then(vaults, g -> g.bury(4, 8, 3)), 2);
        onlyTells("two vaults, both empty", vaults, best, 1);
        onlyTells("two vaults, the less deep place costs less", opened, best, 8);
        Preparation openedBoth = later(then(opened, g -> g.bury(4, 1, 3)), 2);
        onlyTells("two vaults, one burial in each", openedBoth, best, 1);
        onlyTells("two vaults, one burial and two", later(then(openedBoth, g -> g.bury(4, 8, 2)), 2), best, 8);
        onlyTells("two vaults, one of them opened last year", later(then(openedBoth, g -> g.bury(4, 8, 2)), 1), best,
            1);
        onlyTells("a vault costs more", g -> g.buildVault(4, 1), best, 2);
        onlyTells("rock is as good", g -> g.lay(1, ROCK), best, 1);
        onlyTells("its own plots are full, no other is reached", FULL_AT_GATE, g -> g.bestPlot(9), NONE);
        onlyTells("none but its vault at the gate", g -> {
            g.buildVault(4, 1);
            g.bury(9, 8, 1);
            g.bury(9, 9, 1);
            g.bury(9, 2, 1);
        }, best, 1);
        onlyTells("its vault is opened this year", g -> {
            g.buildVault(4, 1);
            g.bury(4, 1, 3);
            g.bury(9, 8, 1);
        }, best, NONE);
        onlyTells("others' burials, full", later(FULL_AT_GATE, 30), best, NONE);
        onlyTells("others' burials at 3, their last year of rest", later(SHUT, 29), best, NONE);
        onlyTells("others' burials at 3, old", later(SHUT, 30), best, 1);
        sentence("Promise 21, bestPlot", "Throws `IndexOutOfBoundsException` if there is no such family");
        range("family", NOTHING, 0, 9, (g, family) -> g.bestPlot(family), family -> 1, INDEX);
    }

    // ---- promise 22

    private static void yearFor() {
        sentence("Promise 22, yearFor", "Finds the first year, from the present one on, in which a burial would not be"
            + " refused, if nothing else is done until then.");
        onlyTells("the present one", NOTHING, g -> g.yearFor(4, 20, 3), 0);
        onlyTells("the present one then", g -> g.pass(7), g -> g.yearFor(4, 20, 3), 7);
        Preparation reserved = g -> g.reserve(5, 20, 3);
        onlyTells("after a reservation", reserved, g -> g.yearFor(4, 20, 3), 4);
        onlyTells("after a reservation, its last year", later(reserved, 3), g -> g.yearFor(4, 20, 3), 4);
        onlyTells("after a reservation, lapsed", later(reserved, 4), g -> g.yearFor(4, 20, 3), 4);
        onlyTells("its own reservation", reserved, g -> g.yearFor(5, 20, 3), 0);
        int[] rest = {30, 15, 60};
        for (int kind = CLAY; kind <= ROCK; kind++) {
            int laid = kind;
            int depth = 3 - kind;
            Preparation buried = g -> {
                g.lay(20, laid);
                g.pass(2);
                g.bury(5, 20, depth);
            };
            int due = kind == ROCK ? NONE : 2 + rest[kind];
            onlyTells("above another's burial, kind " + kind, buried, g -> g.yearFor(4, 20, 1), due);
            onlyTells("in its last year of rest, kind " + kind, later(buried, rest[kind] - 1),
                g -> g.yearFor(4, 20, 1), due);
            onlyTells("at its own depth, kind " + kind, buried, g -> g.yearFor(5, 20, depth), NONE);
        }
        Preparation both = g -> {
            g.reserve(5, 20, 29);
            g.bury(5, 20, 3);
        };
        onlyTells("reserved for as long as it rests", both, g -> g.yearFor(4, 20, 2), 30);
        onlyTells("reserved for a year more", then(both, g -> g.reserve(5, 20, 1)), g -> g.yearFor(4, 20, 2), 31);
        onlyTells("reserved for 2 years more", then(both, g -> g.reserve(5, 20, 2)), g -> g.yearFor(4, 20, 2), 32);
        onlyTells("nothing is changed", both, g -> g.yearFor(4, 20, 2) + g.yearFor(4, 20, 2), 60);
        Preparation vault = g -> {
            g.pass(5);
            g.buildVault(4, 20);
            g.bury(4, 20, 3);
        };
        onlyTells("a vault, this year", vault, g -> g.yearFor(4, 20, 2), 7);
        onlyTells("a vault, 1 year later", later(vault, 1), g -> g.yearFor(4, 20, 2), 7);
        onlyTells("a vault, 2 years later", later(vault, 2), g -> g.yearFor(4, 20, 2), 7);
        onlyTells("a vault, 3 years later", later(vault, 3), g -> g.yearFor(4, 20, 2), 8);
        onlyTells("a vault, not the deepest place", vault, g -> g.yearFor(4, 20, 1), NONE);
        onlyTells("another's vault", vault, g -> g.yearFor(5, 20, 2), NONE);
    }

    private static void yearForBounds() {
        sentence("Promise 22, yearFor",
            "Returns the year, at most the present year plus 100 (also above 2000); NONE if there is none.");
        Preparation to99 = g -> {
            g.reserve(5, 20, 50);
            g.reserve(5, 20, 49);
        };
        Preparation to100 = then(to99, g -> g.reserve(5, 20, 1));
        onlyTells("after 99 years", then(then(to99, g -> g.undo()), g -> g.reserve(5, 20, 48)),
            g -> g.yearFor(4, 20, 1), 99);
        onlyTells("after 100 years", to99, g -> g.yearFor(4, 20, 1), 100);
        onlyTells("after 101 years", to100, g -> g.yearFor(4, 20, 1), NONE);
        onlyTells("after 101 years, a year later", later(to100, 1), g -> g.yearFor(4, 20, 1), 101);
        Preparation inLast = thenAll(LAST_YEAR, to99);
        onlyTells("2100", inLast, g -> g.yearFor(4, 20, 1), 2100);
        onlyTells("2101", then(inLast, g -> g.reserve(5, 20, 1)), g -> g.yearFor(4, 20, 1), NONE);
        onlyTells("2000", LAST_YEAR, g -> g.yearFor(4, 20, 1), 2000);
        onlyTells("2001", g -> {
            g.reserve(5, 20, 50);
            for (int year = 50; year < 2000; year += 50) {
                g.reserve(5, 20, 50);
            }
            passYears(g, 2000);
        }, g -> g.yearFor(4, 20, 1), 2001);
        onlyTells("2030", then(LAST_YEAR, g -> g.bury(5, 20, 2)), g -> g.yearFor(4, 20, 1), 2030);
        onlyTells("2002, in a vault", then(then(LAST_YEAR, g -> g.buildVault(5, 20)), g -> g.bury(5, 20, 3)),
            g -> g.yearFor(5, 20, 2), 2002);
        onlyTells("never: a path", NOTHING, g -> g.yearFor(4, 0, 1), NONE);
        onlyTells("never: too deep", g -> g.lay(20, SAND), g -> g.yearFor(4, 20, 3), NONE);
        onlyTells("as deep as can be", g -> g.lay(20, SAND), g -> g.yearFor(4, 20, 2), 0);
        onlyTells("never: below its own burial", g -> g.bury(4, 20, 2), g -> g.yearFor(4, 20, 3), NONE);
        onlyTells("above its own burial", g -> g.bury(4, 20, 2), g -> g.yearFor(4, 20, 1), 0);
        onlyTells("never: not reached, also when the burials are old", SHUT, g -> g.yearFor(4, 20, 1), NONE);
        onlyTells("reached after clearing", then(later(SHUT, 30), g -> g.clear(1)), g -> g.yearFor(4, 20, 1), 30);
        sentence("Promise 22, yearFor", "Throws `IndexOutOfBoundsException` if there is no such family or plot");
        range("family", NOTHING, 0, 9, (g, family) -> g.yearFor(family, 1, 1), family -> 0, INDEX);
        range("plot", NOTHING, 0, 39, (g, plot) -> g.yearFor(0, plot, 1), plot -> plot == 0 ? NONE : 0, INDEX);
        sentence("Promise 22, yearFor", "Throws `IllegalArgumentException` if depth is out of range");
        range("depth", NOTHING, 1, 3, (g, depth) -> g.yearFor(0, 1, depth), depth -> 0, ARGUMENT);
        range("depth of a path", NOTHING, 1, 3, (g, depth) -> g.yearFor(0, 0, depth), depth -> NONE, ARGUMENT);
    }

    // ---- promise 23

    private static void clearYear() {
        sentence("Promise 23, clearYear",
            "Finds the first year, from the present one on, in which a plot may be cleared.");
        int[] rest = {30, 15, 60};
        for (int kind = CLAY; kind <= ROCK; kind++) {
            int laid = kind;
            int end = 2 + rest[kind];
            Preparation buried = g -> {
                g.lay(20, laid);
                g.pass(2);
                g.bury(5, 20, 1);
            };
            String what = "kind " + kind + ": ";
            onlyTells(what + "in its year", buried, g -> g.clearYear(20), end);
            onlyTells(what + "its last year of rest", later(buried, rest[kind] - 1), g -> g.clearYear(20), end);
            onlyTells(what + "old", later(buried, rest[kind]), g -> g.clearYear(20), end);
            onlyTells(what + "a year later", later(buried, rest[kind] + 1), g -> g.clearYear(20), end + 1);
            onlyTells(what + "the plot beside it", buried, g -> g.clearYear(21), 2);
        }
        Preparation two = g -> {
            g.bury(5, 20, 3);
            g.pass(10);
            g.bury(5, 20, 2);
        };
        onlyTells("the latest of two", two, g -> g.clearYear(20), 40);
        onlyTells("the first of them old", later(two, 20), g -> g.clearYear(20), 40);
        onlyTells("cleared", then(later(two, 30), g -> g.clear(20)), g -> g.clearYear(20), 40);
        sentence("Promise 23, clearYear",
            "Returns the year (also above 2000); the present one if it has no burials.");
        onlyTells("no burials", NOTHING, g -> g.clearYear(20), 0);
        onlyTells("no burials in 2000", LAST_YEAR, g -> g.clearYear(20), 2000);
        onlyTells("the gate in 2000", LAST_YEAR, g -> g.clearYear(0), 2000);
        onlyTells("2030", then(LAST_YEAR, g -> g.bury(5, 20, 2)), g -> g.clearYear(20), 2030);
        onlyTells("2060", then(then(LAST_YEAR, g -> g.lay(20, ROCK)), g -> g.bury(5, 20, 1)), g -> g.clearYear(20),
            2060);
        onlyTells("2000, just old", g -> {
            passYears(g, 1970);
            g.bury(5, 20, 2);
            g.pass(30);
        }, g -> g.clearYear(20), 2000);
        onlyTells("2001", g -> {
            passYears(g, 1971);
            g.bury(5, 20, 2);
            g.pass(29);
        }, g -> g.clearYear(20), 2001);
        onlyTells("a vault without burials", g -> g.buildVault(5, 20), g -> g.clearYear(20), 0);
        onlyTells("a reservation alone", g -> g.reserve(5, 20, 9), g -> g.clearYear(20), 0);
        sentence("Promise 23, clearYear", "Throws `IndexOutOfBoundsException` if there is no such plot");
        range("plot", g -> g.pass(3), 0, 39, (g, plot) -> g.clearYear(plot), plot -> 3, INDEX);
    }

    // ---- promise 24

    private static void cutsOff() {
        sentence("Promise 24, cutsOff", "Returns how many plots that are no paths and are reached now, other than this"
            + " one, would not be reached then (for the gate: all of them).");
        onlyTells("the gate, all", NOTHING, g -> g.cutsOff(0), 39);
        onlyTells("the gate, no paths", g -> g.lay(39, PATH), g -> g.cutsOff(0), 38);
        onlyTells("the gate, one beside it is a path", g -> g.lay(1, PATH), g -> g.cutsOff(0), 38);
        onlyTells("the gate, those that are reached", SHUT, g -> g.cutsOff(0), 2);
        onlyTells("the gate, nothing but paths beside it", g -> {
            g.lay(1, PATH);
            g.bury(9, 8, 3);
            g.bury(9, 2, 3);
            g.bury(9, 9, 3);
        }, g -> g.cutsOff(0), 3);
        for (int plot = 1; plot < 40; plot++) {
            int any = plot;
            onlyTells("new, there is a way round " + plot, NOTHING, g -> g.cutsOff(any), 0);
        }
        Preparation one = g -> g.bury(9, 8, 3);
        onlyTells("the only way", one, g -> g.cutsOff(1), 37);
        onlyTells("the only way, a path", then(one, g -> g.lay(1, PATH)), g -> g.cutsOff(1), 37);
        onlyTells("the only way, a path behind it", then(one, g -> g.lay(39, PATH)), g -> g.cutsOff(1), 36);
        onlyTells("the only way, a burial behind it", then(one, g -> g.bury(0, 39, 1)), g -> g.cutsOff(1), 37);
        onlyTells("the only way, its vault", then(one, g -> g.buildVault(0, 1)), g -> g.cutsOff(1), 37);
        onlyTells("not open already", one, g -> g.cutsOff(8), 0);
        onlyTells("not open already, old", later(one, 30), g -> g.cutsOff(8), 0);
        onlyTells("not open already, at the only way", SHUT, g -> g.cutsOff(1), 0);
        onlyTells("not reached", SHUT, g -> g.cutsOff(20), 0);
        Preparation corner = g -> g.bury(9, 31, 3);
        onlyTells("the way to the last plot", corner, g -> g.cutsOff(38), 1);
        onlyTells("the last plot itself", corner, g -> g.cutsOff(39), 0);
        onlyTells("the way to the last plot, a path", then(corner, g -> g.lay(39, PATH)), g -> g.cutsOff(38), 0);
        onlyTells("the way to the last plot, a burial", then(corner, g -> g.bury(0, 39, 1)), g -> g.cutsOff(38), 1);
        onlyTells("the way to the last plot, closed", then(corner, g -> g.bury(0, 38, 1)), g -> g.cutsOff(38), 0);
        onlyTells("the way before it", then(corner, g -> g.bury(0, 30, 1)), g -> g.cutsOff(37), 2);
        onlyTells("the way before it, 30 has another way", corner, g -> g.cutsOff(37), 0);
        onlyTells("no way across the end of a row", g -> g.bury(9, 15, 3), g -> g.cutsOff(6), 1);
        sentence("Promise 24, cutsOff", "Throws `IndexOutOfBoundsException` if there is no such plot");
        range("plot", one, 0, 39, (g, plot) -> g.cutsOff(plot), plot -> plot == 0 ? 39 : plot == 1 ? 37 : 0, INDEX);
    }

    // ---- promise 25

    private static void meanFee() {
        sentence("Promise 25, meanFee", "Returns the sum of the fees of the burials that are there, as a double,"
            + " divided by their number; 0.0 if there are none.");
        mean("new", NOTHING, 0.0);
        Preparation one = g -> g.bury(0, 20, 1);
        mean("one", one, 30.0);
        mean("one undone", then(one, g -> g.undo()), 0.0);
        mean("one, old", later(one, 30), 30.0);
        mean("one, cleared", then(later(one, 30), g -> g.clear(20)), 0.0);
        mean("a reservation and a vault alone", g -> {
            g.reserve(0, 20, 9);
            g.buildVault(1, 21);
        }, 0.0);
        mean("two, a half", then(then(one, g -> g.reserve(1, 39, 1)), g -> g.bury(1, 39, 1)), 55 / 2.0);
        mean("three, a third", then(then(one, g -> g.bury(0, 21, 1)), g -> g.bury(0, 22, 2)), 100 / 3.0);
        mean("one of two cleared", g -> {
            g.bury(0, 20, 1);
            g.bury(0, 39, 3);
            g.pass(30);
            g.clear(20);
        }, 50.0);
        mean("the fee that was paid then", then(one, g -> g.setParish(0, false)), 30.0);
        mean("the least one", g -> {
            g.reserve(0, 20, 1);
            g.bury(0, 20, 1);
        }, 25.0);
        mean("the greatest one", g -> {
            g.setParish(0, false);
            g.buildVault(0, 39);
            g.bury(0, 39, 3);
        }, 160.0);
        mean("48 of them", fullButForWays(), 40.0);
    }

    private static void mean(String what, Preparation preparation, double want) {
        onlyTells(what, preparation, g -> Double.doubleToLongBits(g.meanFee()), Double.doubleToLongBits(want));
    }

    // ---- promise 26

    private static void digest() {
        sentence("Promise 26, digest", "The hash starts at 2267. For each value v of the following list, in order, the"
            + " hash becomes 31 * hash + v, in long arithmetic with overflow.");
        onlyTells("new, from the document alone", NOTHING, g -> g.digest(), digestOfNew(""));
        onlyTells("the least character", text("!"), g -> g.digest(), digestOfNew("!"));
        onlyTells("the greatest character", text("~"), g -> g.digest(), digestOfNew("~"));
        onlyTells("a full buffer", text("b~".repeat(30)), g -> g.digest(), digestOfNew("b~".repeat(30)));
        onlyTells("an emptied buffer", then(text("b~"), g -> g.clearBuffer()), g -> g.digest(), digestOfNew(""));
        sentence("Promise 26, digest", "The values are: count(0) to count(8); for each plot its properties 0 to 8, for"
            + " each of the depths 1 to 3 its burial's properties 0 to 3, and clearYear; for each family its properties"
            + " 0 to 5, and bestPlot; the bits of meanFee (as Double.doubleToLongBits); the length of the buffer and"
            + " each of its character codes.");
        digestOf("one burial", g -> g.bury(0, 20, 1));
        digestOf("mean fee a power of two", g -> {
            for (int plot = 2; plot <= 5; plot++) {
                g.bury(0, plot, 1);
            }
            g.bury(0, 6, 2);
        });
        digestOf("mean fee a third", g -> {
            g.bury(0, 1, 1);
            g.bury(9, 39, 1);
            g.bury(4, 38, 2);
        });
        digestOf("the least mean fee", g -> {
            g.reserve(0, 20, 1);
            g.bury(0, 20, 1);
        });
        digestOf("the greatest mean fee", g -> {
            g.setParish(0, false);
            g.buildVault(0, 39);
            g.bury(0, 39, 3);
        });
        digestOf("the last year", LAST_YEAR);
        digestOf("above the last year", then(then(LAST_YEAR, g -> g.reserve(7, 39, 50)), g -> g.bury(7, 39, 3)));
        digestOf("not reached", SHUT);
        digestOf("full but for the ways", fullButForWays());
        digestOf("full but for the ways, old", later(fullButForWays(), 30));
        answers("the same for the same calls", fullButForWays(), g -> g.digest(), ready(fullButForWays()).digest());
    }

    private static long digestOfNew(String buffer) {
        List<Long> values = new ArrayList<>();
        addAll(values, 0, 0, 0, 39, 0, 0, 0, 0, 0);
        for (int plot = 0; plot < 40; plot++) {
            addAll(values, plot == 0 ? 3 : 0, -1, 0, 0, -1, -1, -1, 1, plot == 0 ? 0 : 3);
            addAll(values, -1, -1, -1, -1, -1, -1, -1, -1, -1, -1, -1, -1);
            addAll(values, 0);
        }
        for (int family = 0; family < 10; family++) {
            addAll(values, 1, 0, 0, 0, 0, 0, 1);
        }
        addAll(values, 0, buffer.length());
        for (int i = 0; i < buffer.length(); i++) {
            addAll(values, buffer.charAt(i));
        }
        return hashOf(values);
    }

    private static void addAll(List<Long> values, long... more) {
        for (long value : more) {
            values.add(value);
        }
    }

    private static long hashOf(List<Long> values) {
        long hash = 2267;
        for (long value : values) {
            hash = 31 * hash + value;
        }
        return hash;
    }

    /** From the answers of the other calls, on other grounds, so that none is used for more than 512 calls. */
    private static void digestOf(String what, Preparation preparation) {
        List<Long> values = new ArrayList<>();
        BurialGround g = ready(preparation);
        for (int number = 0; number <= 8; number++) {
            addAll(values, g.count(number));
        }
        for (int plot = 0; plot < 40; plot++) {
            addPlot(values, ready(preparation), plot);
        }
        for (int family = 0; family < 10; family++) {
            for (int property = 0; property <= 5; property++) {
                addAll(values, g.family(family, property));
            }
            addAll(values, g.bestPlot(family));
        }
        addAll(values, Double.doubleToLongBits(g.meanFee()), 0);
        onlyTells(what, preparation, x -> x.digest(), hashOf(values));
    }

    private static void addPlot(List<Long> values, BurialGround g, int plot) {
        for (int property = 0; property <= 8; property++) {
            addAll(values, g.plot(plot, property));
        }
        for (int depth = 1; depth <= 3; depth++) {
            for (int property = 0; property <= 3; property++) {
                addAll(values, g.burial(plot, depth, property));
            }
        }
        addAll(values, g.clearYear(plot));
    }

    public static void main(String[] args) {
        questionsChangeNothing();
        plot();
        plotWrongly();
        burial();
        burialWrongly();
        family();
        familyWrongly();
        count();
        countWrongly();
        why();
        fee();
        deepest();
        bestPlot();
        yearFor();
        yearForBounds();
        clearYear();
        cutsOff();
        meanFee();
        digest();
        Checks.end();
    }
}
