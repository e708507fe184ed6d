/** The boundary cases of the promises 1 to 8: a new object, the ground, burials, reservations, vaults. */
public final class ChangesBoundaryTest extends Boundary {
    private ChangesBoundaryTest() {
    }

    /** Allowed in the plots 1 to 39; the gate is there, but a path; beside them is no plot. */
    private static void plotsButTheGate(CallWith call, int due) {
        for (int plot = 1; plot < 40; plot++) {
            int allowed = plot;
            answers("plot " + plot, NOTHING, g -> call.on(g, allowed), due);
        }
        refuses("plot 0", NOTHING, g -> call.on(g, 0), STATE);
        refusesBeside("plot", NOTHING, 0, 39, call, INDEX);
    }

    // ---- promise 1

    private static void newObject() {
        sentence("Promise 1, a new object",
            "Creates a ground of clay but for the gate, in the year 0, with an empty buffer.");
        BurialGround g = new BurialGround();
        int[] ofPlot = {CLAY, NONE, 0, 0, NONE, NONE, NONE, 1, 3};
        int[] ofGate = {PATH, NONE, 0, 0, NONE, NONE, NONE, 1, 0};
        for (int plot = 0; plot < 40; plot++) {
            for (int what = 0; what <= 8; what++) {
                check("plot(" + plot + ", " + what + ")", g.plot(plot, what), plot == 0 ? ofGate[what] : ofPlot[what]);
            }
            check("burial(" + plot + ", 3, 0)", g.burial(plot, 3, 0), NONE);
        }
        int[] counts = {0, 0, 0, 39, 0, 0, 0, 0, 0};
        for (int what = 0; what <= 8; what++) {
            check("count(" + what + ")", g.count(what), counts[what]);
        }
        int[] ofFamily = {1, 0, 0, 0, 0, 0};
        for (int what = 0; what <= 5; what++) {
            check("family(0, " + what + ")", g.family(0, what), ofFamily[what]);
            check("family(9, " + what + ")", g.family(9, what), ofFamily[what]);
        }
        refuses("nothing to undo", NOTHING, x -> x.undo(), STATE);
        refuses("nothing to load", NOTHING, x -> x.load(), ARGUMENT);
        answers("the buffer", NOTHING, x -> x.clearBuffer(), 0);
        answers("the first character", NOTHING, x -> x.append('b'), 1);
        answers("one object knows nothing of another", NOTHING, x -> {
            BurialGround other = new BurialGround();
            other.bury(0, 1, 3);
            other.append('b');
            return x.count(1) + x.count(7) + x.clearBuffer();
        }, 0);
    }

    // ---- promise 2

    private static void lay() {
        sentence("Promise 2, lay", "Changes the kind of a plot. Undoable.");
        for (int from = CLAY; from <= PATH; from++) {
            int before = from;
            for (int to = CLAY; to <= PATH; to++) {
                int after = to;
                Preparation laid = g -> g.lay(9, before);
                undoable("from " + from + " to " + to, laid, g -> g.lay(9, after), from);
                answers("then its kind", then(laid, g -> g.lay(9, after)), g -> g.plot(9, 0), to);
                answers("then the kind beside it", then(laid, g -> g.lay(9, after)), g -> g.plot(10, 0), CLAY);
            }
        }
        sentence("Promise 2, lay", "Returns the previous kind.");
        answers("at first", NOTHING, g -> g.lay(39, PATH), CLAY);
        answers("then", g -> g.lay(39, PATH), g -> g.lay(39, CLAY), PATH);
        sentence("Promise 2, lay",
            "Throws `IndexOutOfBoundsException` if there is no such plot, or it is the gate");
        range("lay", NOTHING, 1, 39, (g, plot) -> g.lay(plot, ROCK), plot -> CLAY, INDEX);
        refuses("the gate to another kind", NOTHING, g -> g.lay(0, CLAY), INDEX);
        refuses("the gate to a path", NOTHING, g -> g.lay(0, PATH), INDEX);
        sentence("Promise 2, lay", "Throws `IllegalArgumentException` if kind is out of range");
        range("lay to the kind", NOTHING, 0, 3, (g, kind) -> g.lay(1, kind), kind -> CLAY, ARGUMENT);
    }

    private static void layInUse() {
        sentence("Promise 2, lay", "Throws `IllegalStateException` if there are burials in it, it is a vault, or it is"
            + " reserved (also if that has lapsed)");
        for (int depth = 1; depth <= 3; depth++) {
            int at = depth;
            Preparation buried = g -> g.bury(0, 9, at);
            refuses("a burial at " + depth, buried, g -> g.lay(9, SAND), STATE);
            refuses("to the same kind, a burial at " + depth, buried, g -> g.lay(9, CLAY), STATE);
            refuses("an old burial at " + depth, later(buried, 30), g -> g.lay(9, SAND), STATE);
            undoable("cleared", then(later(buried, 30), g -> g.clear(9)), g -> g.lay(9, SAND), CLAY);
            undoable("undone", then(buried, g -> g.undo()), g -> g.lay(9, SAND), CLAY);
            undoable("the plot beside a burial at " + depth, buried, g -> g.lay(10, SAND), CLAY);
        }
        Preparation vault = g -> g.buildVault(0, 9);
        refuses("a vault", vault, g -> g.lay(9, SAND), STATE);
        refuses("a vault of family 0 to the same kind", vault, g -> g.lay(9, CLAY), STATE);
        undoable("the plot beside a vault", vault, g -> g.lay(8, SAND), CLAY);
        Preparation cleared = g -> {
            g.buildVault(0, 9);
            g.bury(0, 9, 3);
            g.pass(30);
            g.clear(9);
        };
        refuses("a cleared vault", cleared, g -> g.lay(9, SAND), STATE);
        Preparation reserved = g -> g.reserve(0, 9, 5);
        refuses("a reservation", reserved, g -> g.lay(9, SAND), STATE);
        refuses("a reservation, its last year", later(reserved, 5), g -> g.lay(9, SAND), STATE);
        refuses("a reservation that has lapsed", later(reserved, 6), g -> g.lay(9, SAND), STATE);
        refuses("a reservation that lapsed long ago", later(reserved, 1900), g -> g.lay(9, PATH), STATE);
        undoable("an undone reservation", then(reserved, g -> g.undo()), g -> g.lay(9, SAND), CLAY);
        undoable("the plot beside a reservation", reserved, g -> g.lay(10, SAND), CLAY);
    }

    // ---- promise 3

    private static void pass() {
        sentence("Promise 3, pass", "Lets years pass. Undoable.");
        for (int years : new int[] {1, 2, 99, 100}) {
            undoable("pass " + years, NOTHING, g -> g.pass(years), 0);
            answers("then the year", g -> g.pass(years), g -> g.count(0), years);
        }
        sentence("Promise 3, pass", "Throws `IllegalArgumentException` if years is out of range");
        range("pass", NOTHING, 1, 100, (g, years) -> g.pass(years), years -> 0, ARGUMENT);
        sentence("Promise 3, pass", "Throws `IllegalStateException` if the year would be above 2000");
        for (int year : new int[] {1900, 1901, 1950, 1999, 2000}) {
            Preparation ready = g -> passYears(g, year);
            int left = 2000 - year;
            if (left > 0) {
                answers("from " + year + " to 2000", ready, g -> g.pass(left), 0);
                answers("then the year", then(ready, g -> g.pass(left)), g -> g.count(0), 2000);
            }
            if (left < 100) {
                refuses("from " + year + " to 2001", ready, g -> g.pass(left + 1), STATE);
                refuses("from " + year + ", 100 years", ready, g -> g.pass(100), STATE);
            }
            refuses("from " + year + ", 101 years", ready, g -> g.pass(101), ARGUMENT);
            refuses("from " + year + ", most years", ready, g -> g.pass(Integer.MAX_VALUE), ARGUMENT);
        }
    }

    private static void lapsing() {
        sentence("Promise 3, pass", "Returns how many reservations lapse by that.");
        Preparation one = g -> g.reserve(0, 1, 5);
        undoable("to the year before its last one", one, g -> g.pass(4), 0);
        undoable("to its last year", one, g -> g.pass(5), 0);
        undoable("beyond its last year", one, g -> g.pass(6), 1);
        undoable("far beyond it", one, g -> g.pass(100), 1);
        undoable("in its last year, 1 more", later(one, 5), g -> g.pass(1), 1);
        undoable("it has lapsed before", later(one, 6), g -> g.pass(1), 0);
        Preparation three = g -> {
            g.reserve(0, 1, 5);
            g.reserve(1, 2, 6);
            g.reserve(2, 39, 6);
        };
        undoable("none of three", three, g -> g.pass(5), 0);
        undoable("one of three", three, g -> g.pass(6), 1);
        undoable("three of three", three, g -> g.pass(7), 3);
        undoable("the two that are left", later(three, 6), g -> g.pass(1), 2);
        undoable("a lengthened one, its former end", then(one, g -> g.reserve(0, 1, 1)), g -> g.pass(6), 0);
        undoable("a lengthened one, its end", then(one, g -> g.reserve(0, 1, 1)), g -> g.pass(7), 1);
        undoable("one that a vault took away", then(one, g -> g.buildVault(0, 1)), g -> g.pass(6), 0);
        undoable("one made anew", then(later(one, 6), g -> g.reserve(1, 1, 1)), g -> g.pass(2), 1);
        undoable("on every plot", g -> {
            for (int plot = 1; plot < 40; plot++) {
                g.reserve(plot % 10, plot, 1);
            }
            for (int i = 0; i < 6; i++) {
                g.undo();
            }
        }, g -> g.pass(2), 33);
    }

    // ---- promise 4

    private static void setParish() {
        sentence("Promise 4, setParish", "Makes a family one of the parish, or one that is not. Undoable.");
        Preparation stranger = g -> g.setParish(4, false);
        undoable("out of it", NOTHING, g -> g.setParish(4, false), 1);
        undoable("into it, it is of it", NOTHING, g -> g.setParish(4, true), 1);
        undoable("into it", stranger, g -> g.setParish(4, true), 0);
        undoable("out of it, it is not of it", stranger, g -> g.setParish(4, false), 0);
        sentence("Promise 4, setParish", "Returns 1 if it was one, else 0.");
        answers("it was one", NOTHING, g -> g.setParish(4, false), 1);
        answers("it was none", stranger, g -> g.setParish(4, true), 0);
        answers("then it is", then(stranger, g -> g.setParish(4, true)), g -> g.family(4, 0), 1);
        answers("then it is not", stranger, g -> g.family(4, 0), 0);
        answers("the family before it", stranger, g -> g.setParish(3, false), 1);
        answers("the family behind it", stranger, g -> g.setParish(5, false), 1);
        sentence("Promise 4, setParish", "Throws `IndexOutOfBoundsException` if there is no such family");
        range("out of it, family", NOTHING, 0, 9, (g, family) -> g.setParish(family, false), family -> 1, INDEX);
        range("into it, family", stranger, 0, 9, (g, family) -> g.setParish(family, true),
            family -> family == 4 ? 0 : 1, INDEX);
    }

    // ---- promise 5

    private static void bury() {
        sentence("Promise 5, bury", "Buries. Undoable.");
        undoable("in the first plot", NOTHING, g -> g.bury(0, 1, 1), 30);
        undoable("in the last plot", NOTHING, g -> g.bury(9, 39, 3), 50);
        Preparation buried = g -> {
            g.setParish(7, false);
            passYears(g, 2000);
            g.bury(7, 39, 3);
        };
        int[] due = {7, 2000, 0, 100};
        for (int what = 0; what <= 3; what++) {
            int property = what;
            answers("in the last year, property " + what, buried, g -> g.burial(39, 3, property), due[what]);
            answers("nothing above it, property " + what, buried, g -> g.burial(39, 2, property), NONE);
            answers("nothing before it, property " + what, buried, g -> g.burial(38, 3, property), NONE);
        }
        answers("paid", buried, g -> g.family(7, 1), 100);
        answers("not paid by another", buried, g -> g.family(6, 1), 0);
        sentence("Promise 5, bury", "Returns the fee.");
        answers("depth 1", NOTHING, g -> g.bury(0, 1, 1), 30);
        answers("in a vault, not of the parish", g -> {
            g.setParish(0, false);
            g.buildVault(0, 1);
        }, g -> g.bury(0, 1, 3), 160);
        answers("in its own reservation, last year", g -> {
            g.reserve(0, 1, 1);
            g.pass(1);
        }, g -> g.bury(0, 1, 1), 25);
        answers("in its own reservation, lapsed", g -> {
            g.reserve(0, 1, 1);
            g.pass(2);
        }, g -> g.bury(0, 1, 1), 30);
    }

    private static void buryWrongly() {
        sentence("Promise 5, bury", "Throws `IndexOutOfBoundsException` if there is no such family or plot");
        range("family", NOTHING, 0, 9, (g, family) -> g.bury(family, 1, 3), family -> 50, INDEX);
        plotsButTheGate((g, plot) -> g.bury(0, plot, 3), 50);
        sentence("Promise 5, bury", "Throws `IllegalArgumentException` if depth is out of range");
        range("depth", NOTHING, 1, 3, (g, depth) -> g.bury(0, 1, depth), depth -> 10 * depth + 20, ARGUMENT);
        sentence("Promise 5, bury", "Throws `IllegalStateException` if it is refused");
        refuses("1, a path", NOTHING, g -> g.bury(0, 0, 1), STATE);
        refuses("2, held", g -> g.reserve(1, 9, 1), g -> g.bury(0, 9, 1), STATE);
        undoable("2, held by itself", g -> g.reserve(0, 9, 1), g -> g.bury(0, 9, 1), 25);
        refuses("3, too deep", g -> g.lay(9, ROCK), g -> g.bury(0, 9, 2), STATE);
        undoable("3, as deep as can be", g -> g.lay(9, ROCK), g -> g.bury(0, 9, 1), 30);
        refuses("4, a burial there", g -> g.bury(0, 9, 2), g -> g.bury(0, 9, 2), STATE);
        undoable("4, above it", g -> g.bury(0, 9, 2), g -> g.bury(0, 9, 1), 30);
        refuses("5, not reached", SHUT, g -> g.bury(0, 9, 1), STATE);
        undoable("5, reached", g -> g.bury(9, 8, 3), g -> g.bury(0, 9, 1), 30);
        Preparation vault = g -> {
            g.buildVault(0, 9);
            g.bury(0, 9, 3);
        };
        refuses("6, a year later", later(vault, 1), g -> g.bury(0, 9, 2), STATE);
        undoable("6, two years later", later(vault, 2), g -> g.bury(0, 9, 2), 70);
        refuses("7, not the deepest place", later(vault, 2), g -> g.bury(0, 9, 1), STATE);
    }

    // ---- promise 6

    private static void reserve() {
        sentence("Promise 6, reserve", "Reserves a plot for years from the present year on: up to the present year plus"
            + " years; a reservation of the same family that has not lapsed is lengthened: up to its year plus years."
            + " Undoable.");
        Preparation own = g -> {
            g.pass(3);
            g.reserve(2, 20, 5);
        };
        answers("from 3 on", own, g -> g.plot(20, 6), 8);
        Call lengthen = g -> g.reserve(2, 20, 4);
        undoable("lengthened at once", own, lengthen, 8);
        answers("then up to", then(own, lengthen), g -> g.plot(20, 6), 12);
        undoable("lengthened in its last year", later(own, 5), lengthen, 8);
        answers("lengthened in its last year: up to", then(later(own, 5), lengthen), g -> g.plot(20, 6), 12);
        undoable("anew a year after it", later(own, 6), lengthen, 8);
        answers("anew a year after it: up to", then(later(own, 6), lengthen), g -> g.plot(20, 6), 13);
        Preparation anothers = then(later(own, 6), g -> g.reserve(3, 20, 4));
        answers("another's, a year after it: up to", anothers, g -> g.plot(20, 6), 13);
        answers("another's, a year after it: the family", anothers, g -> g.plot(20, 5), 3);
        Preparation often = g -> {
            for (int i = 0; i < 50; i++) {
                g.reserve(2, 20, 50);
            }
        };
        answers("lengthened again and again", often, g -> g.plot(20, 6), 2500);
        answers("lengthened again and again: paid", often, g -> g.family(2, 1), 5000);
        Preparation last = g -> {
            passYears(g, 2000);
            g.reserve(2, 20, 50);
        };
        answers("from 2000 on", last, g -> g.plot(20, 6), 2050);
        answers("the plots beside it", own, g -> g.plot(19, 5) + g.plot(21, 5), 2 * NONE);
    }

    private static void reserveWrongly() {
        sentence("Promise 6, reserve", "Returns what it costs.");
        range("years", NOTHING, 1, 50, (g, years) -> g.reserve(0, 20, years), years -> 2 * years, ARGUMENT);
        range("years, not of the parish", g -> g.setParish(0, false), 1, 50, (g, years) -> g.reserve(0, 20, years),
            years -> 4 * years, ARGUMENT);
        answers("lengthened, the new years alone", g -> g.reserve(0, 20, 50), g -> g.reserve(0, 20, 1), 2);
        sentence("Promise 6, reserve", "Throws `IndexOutOfBoundsException` if there is no such family or plot");
        range("family", NOTHING, 0, 9, (g, family) -> g.reserve(family, 20, 1), family -> 2, INDEX);
        plotsButTheGate((g, plot) -> g.reserve(0, plot, 1), 2);
        sentence("Promise 6, reserve", "Throws `IllegalArgumentException` if years is out of range");
        range("up to", NOTHING, 1, 50, (g, years) -> g.reserve(0, 20, years) / 2, years -> years, ARGUMENT);
    }

    private static void reserveRefused() {
        sentence("Promise 6, reserve",
            "Throws `IllegalStateException` if the plot is a path or a vault, or another family holds it");
        refuses("the gate", NOTHING, g -> g.reserve(0, 0, 1), STATE);
        refuses("a path", g -> g.lay(20, PATH), g -> g.reserve(0, 20, 1), STATE);
        undoable("rock, the last kind that is no path", g -> g.lay(20, ROCK), g -> g.reserve(0, 20, 1), 2);
        refuses("another's vault", g -> g.buildVault(1, 20), g -> g.reserve(0, 20, 1), STATE);
        refuses("its own vault", g -> g.buildVault(0, 20), g -> g.reserve(0, 20, 1), STATE);
        undoable("beside a vault", g -> g.buildVault(1, 20), g -> g.reserve(0, 21, 1), 2);
        Preparation reserved = g -> g.reserve(1, 20, 3);
        refuses("another's reservation", reserved, g -> g.reserve(0, 20, 1), STATE);
        refuses("another's reservation, its last year", later(reserved, 3), g -> g.reserve(0, 20, 1), STATE);
        undoable("another's reservation, lapsed", later(reserved, 4), g -> g.reserve(0, 20, 1), 2);
        Preparation buried = g -> g.bury(1, 20, 3);
        refuses("another's burial", buried, g -> g.reserve(0, 20, 1), STATE);
        refuses("another's burial, its last year of rest", later(buried, 29), g -> g.reserve(0, 20, 1), STATE);
        undoable("another's burial, old", later(buried, 30), g -> g.reserve(0, 20, 1), 2);
        undoable("its own burial", buried, g -> g.reserve(1, 20, 1), 2);
        Preparation lapsed = g -> {
            g.reserve(0, 20, 3);
            g.pass(4);
            g.bury(1, 20, 3);
        };
        refuses("its own lapsed reservation, another's burial", lapsed, g -> g.reserve(0, 20, 1), STATE);
        undoable("another's lapsed reservation, its own burial", lapsed, g -> g.reserve(1, 20, 1), 2);
        undoable("a plot that is not reached", SHUT, g -> g.reserve(0, 20, 1), 2);
        undoable("a plot that is full", g -> g.bury(0, 20, 1), g -> g.reserve(0, 20, 1), 2);
    }

    // ---- promise 7

    private static void buildVault() {
        sentence("Promise 7, buildVault", "Builds a vault; a reservation of the plot is gone. Undoable.");
        undoable("clay", NOTHING, g -> g.buildVault(0, 1), 100);
        undoable("sand", g -> g.lay(1, SAND), g -> g.buildVault(9, 1), 100);
        Preparation reserved = g -> g.reserve(2, 39, 4);
        Preparation own = then(reserved, g -> g.buildVault(2, 39));
        undoable("in its own reservation", reserved, g -> g.buildVault(2, 39), 100);
        answers("then the family of the reservation", own, g -> g.plot(39, 5), NONE);
        answers("then its year", own, g -> g.plot(39, 6), NONE);
        answers("then reservations", own, g -> g.count(5), 0);
        Preparation others = then(later(reserved, 5), g -> g.buildVault(3, 39));
        undoable("in another's lapsed reservation", later(reserved, 5), g -> g.buildVault(3, 39), 100);
        answers("then the family of the lapsed one", others, g -> g.plot(39, 5), NONE);
        answers("then the year of the lapsed one", others, g -> g.plot(39, 6), NONE);
        answers("the reservation beside it stays", thenAll(g -> g.reserve(2, 38, 4), own), g -> g.plot(38, 5), 2);
        sentence("Promise 7, buildVault", "Returns what it costs.");
        answers("of the parish", NOTHING, g -> g.buildVault(0, 1), 100);
        answers("not of the parish", g -> g.setParish(0, false), g -> g.buildVault(0, 1), 200);
        answers("not of the parish, in its own reservation", g -> {
            g.setParish(2, false);
            g.reserve(2, 39, 4);
        }, g -> g.buildVault(2, 39), 200);
        sentence("Promise 7, buildVault", "Throws `IndexOutOfBoundsException` if there is no such family or plot");
        range("family", NOTHING, 0, 9, (g, family) -> g.buildVault(family, 1), family -> 100, INDEX);
        plotsButTheGate((g, plot) -> g.buildVault(0, plot), 100);
    }

    private static void buildVaultRefused() {
        sentence("Promise 7, buildVault", "Throws `IllegalStateException` if the plot is a path, rock or a vault, has"
            + " burials, another family holds it, or it is not reached");
        refuses("the gate", NOTHING, g -> g.buildVault(0, 0), STATE);
        refuses("a path", g -> g.lay(20, PATH), g -> g.buildVault(0, 20), STATE);
        refuses("rock", g -> g.lay(20, ROCK), g -> g.buildVault(0, 20), STATE);
        refuses("its own vault", g -> g.buildVault(0, 20), g -> g.buildVault(0, 20), STATE);
        refuses("another's vault", g -> g.buildVault(1, 20), g -> g.buildVault(0, 20), STATE);
        undoable("beside a vault", g -> g.buildVault(1, 20), g -> g.buildVault(0, 21), 100);
        for (int depth = 1; depth <= 3; depth++) {
            int at = depth;
            Preparation buried = g -> g.bury(0, 20, at);
            refuses("its own burial at " + depth, buried, g -> g.buildVault(0, 20), STATE);
            refuses("its own old burial at " + depth, later(buried, 30), g -> g.buildVault(0, 20), STATE);
            refuses("another's old burial at " + depth, later(buried, 30), g -> g.buildVault(1, 20), STATE);
            undoable("cleared", then(later(buried, 30), g -> g.clear(20)), g -> g.buildVault(1, 20), 100);
        }
        Preparation reserved = g -> g.reserve(1, 20, 3);
        refuses("another's reservation", reserved, g -> g.buildVault(0, 20), STATE);
        refuses("another's reservation, its last year", later(reserved, 3), g -> g.buildVault(0, 20), STATE);
        undoable("another's reservation, lapsed", later(reserved, 4), g -> g.buildVault(0, 20), 100);
        undoable("its own reservation, its last year", later(reserved, 3), g -> g.buildVault(1, 20), 100);
        refuses("not reached", SHUT, g -> g.buildVault(0, 9), STATE);
        refuses("not reached, its own reservation", thenAll(g -> g.reserve(0, 9, 50), SHUT), g -> g.buildVault(0, 9),
            STATE);
        undoable("reached by one of two", g -> g.bury(9, 8, 3), g -> g.buildVault(0, 9), 100);
        undoable("reached again", then(later(SHUT, 30), g -> g.clear(8)), g -> g.buildVault(0, 9), 100);
    }

    // ---- promise 8

    private static void clear() {
        sentence("Promise 8, clear", "Clears a plot: all its burials are gone; a vault stays. Undoable.");
        Preparation three = g -> {
            g.bury(0, 20, 3);
            g.bury(0, 20, 2);
            g.bury(0, 20, 1);
            g.bury(0, 19, 1);
            g.bury(0, 21, 3);
        };
        Preparation cleared = then(later(three, 30), g -> g.clear(20));
        for (int depth = 1; depth <= 3; depth++) {
            int at = depth;
            for (int what = 0; what <= 3; what++) {
                int property = what;
                answers("at " + depth + ", property " + what, cleared, g -> g.burial(20, at, property), NONE);
            }
        }
        answers("the plot before it", cleared, g -> g.burial(19, 1, 0), 0);
        answers("the plot behind it", cleared, g -> g.burial(21, 3, 0), 0);
        answers("burials so far", cleared, g -> g.family(0, 2), 5);
        Preparation vault = g -> {
            g.buildVault(4, 20);
            g.bury(4, 20, 3);
        };
        undoable("a vault", later(vault, 30), g -> g.clear(20), 1);
        answers("the vault stays", then(later(vault, 30), g -> g.clear(20)), g -> g.plot(20, 4), 4);
        undoable("a vault without burials", g -> g.buildVault(4, 20), g -> g.clear(20), 0);
        Preparation reserved = g -> {
            g.reserve(4, 20, 50);
            g.bury(4, 20, 3);
            g.pass(30);
            g.clear(20);
        };
        answers("nothing is said of a reservation", reserved, g -> g.plot(20, 5), 4);
        answers("nor of its year", reserved, g -> g.plot(20, 6), 50);
        sentence("Promise 8, clear", "Returns how many burials are gone.");
        answers("of a path", NOTHING, g -> g.clear(0), 0);
        answers("of an empty plot", NOTHING, g -> g.clear(39), 0);
        answers("of one", g -> {
            g.bury(0, 20, 1);
            g.pass(30);
        }, g -> g.clear(20), 1);
        answers("of two", g -> {
            g.bury(0, 20, 3);
            g.bury(0, 20, 1);
            g.pass(30);
        }, g -> g.clear(20), 2);
        answers("of three", later(three, 30), g -> g.clear(20), 3);
        answers("again", cleared, g -> g.clear(20), 0);
        sentence("Promise 8, clear", "Throws `IndexOutOfBoundsException` if there is no such plot");
        range("plot", NOTHING, 0, 39, (g, plot) -> g.clear(plot), plot -> 0, INDEX);
    }

    private static void clearRefused() {
        sentence("Promise 8, clear", "Throws `IllegalStateException` if a burial in it is not old");
        int[] rest = {30, 15, 60};
        for (int kind = CLAY; kind <= ROCK; kind++) {
            int laid = kind;
            Preparation buried = g -> {
                g.lay(20, laid);
                g.bury(0, 20, 1);
            };
            refuses("in its year, kind " + kind, buried, g -> g.clear(20), STATE);
            refuses("its last year of rest, kind " + kind, later(buried, rest[kind] - 1), g -> g.clear(20), STATE);
            undoable("old, kind " + kind, later(buried, rest[kind]), g -> g.clear(20), 1);
        }
        for (int late = 2; late >= 1; late--) {
            int at = late;
            Preparation two = g -> {
                g.bury(0, 20, 3);
                g.pass(10);
                g.bury(0, 20, at);
                g.pass(19);
            };
            refuses("neither is old", two, g -> g.clear(20), STATE);
            refuses("one is old, that at " + late + " is not", later(two, 1), g -> g.clear(20), STATE);
            refuses("the later one in its last year of rest", later(two, 10), g -> g.clear(20), STATE);
            undoable("both are old", later(two, 11), g -> g.clear(20), 2);
        }
        Preparation beside = g -> {
            g.bury(0, 20, 3);
            g.pass(30);
            g.bury(0, 21, 3);
            g.bury(0, 19, 1);
        };
        undoable("the burials beside it are not old", beside, g -> g.clear(20), 1);
    }

    public static void main(String[] args) {
        newObject();
        lay();
        layInUse();
        pass();
        lapsing();
        setParish();
        bury();
        buryWrongly();
        reserve();
        reserveWrongly();
        reserveRefused();
        buildVault();
        buildVaultRefused();
        clear();
        clearRefused();
        Checks.end();
    }
}
