/** The boundary cases that the document names before its promises: what an object is, and the terms. */
public final class TermsBoundaryTest extends Boundary {
    private static final int[] GREATEST_DEPTH = {3, 2, 1, 0};
    private static final int[] YEARS_OF_REST = {30, 15, 60};
    private static final int LAST_CALL = 512;

    private TermsBoundaryTest() {
    }

    // ---- what it is

    private static void callsOfAnObject() {
        sentence("What it is", "An object is used for at most 512 calls after it has been made;"
            + " what later calls answer is free.");
        lastCall("a question", g -> g.count(0), g -> g.count(3), "39");
        lastCall("a change", g -> g.count(0), g -> g.bury(0, 1, 3), "50");
        lastCall("a refused call", g -> g.count(0), g -> g.undo(), STATE);
        lastCall("a change after changes", g -> g.setParish(1, false), g -> g.setParish(1, true), "0");
        lastCall("undo after changes", g -> g.setParish(1, false), g -> g.undo(), "5");
        lastCall("digest", g -> g.count(0), g -> g.digest(), String.valueOf(new BurialGround().digest()));
        lastCall("the year after years", g -> g.pass(2), g -> g.count(0), "1022");
        lastCall("append after clearBuffer", g -> g.clearBuffer(), g -> g.append('b'), "1");
    }

    private static void lastCall(String what, Call before, Call last, String want) {
        BurialGround g = new BurialGround();
        for (int call = 1; call < LAST_CALL; call++) {
            before.on(g);
        }
        Checks.same("What it is, the 512th call: " + what, endingOf(g, last), want);
    }

    // ---- plots

    private static void plotNumbers() {
        sentence("Terms, Plots", "There are 40 plots in 5 rows of 8: the plot of the row r (0 to 4) and the place c"
            + " (0 to 7) has the number 8 * r + c.");
        range("the kind", NOTHING, 0, 39, (g, plot) -> g.plot(plot, 0), plot -> plot == 0 ? PATH : CLAY, INDEX);
        answers("plots that are not paths", NOTHING, g -> g.count(3), 39);
    }

    private static void neighbours() {
        sentence("Terms, Plots", "Plots are neighbours if they are next to each other in a row or a column.");
        for (int plot = 1; plot < 40; plot++) {
            int[] around = neighboursOf(plot);
            boolean besideGate = plot == 1 || plot == 8;
            answers("plot " + plot + ", all neighbours but the gate closed", closed(around, NONE),
                reachedOf(plot), besideGate ? 1 : 0);
            for (int open : around) {
                boolean way = besideGate || isReachedWith(plot, open);
                answers("plot " + plot + ", all neighbours but " + open + " closed", closed(around, open),
                    reachedOf(plot), way ? 1 : 0);
            }
        }
        answers("7 and 8, the end of a row and the start of the next", closed(new int[] {6, 15}, NONE),
            reachedOf(7), 0);
        answers("8 is open then", closed(new int[] {6, 15}, NONE), reachedOf(8), 1);
        answers("31 and 32", closed(new int[] {24, 33}, NONE), reachedOf(32), 0);
        answers("31 is open then", closed(new int[] {24, 33}, NONE), reachedOf(31), 1);
        answers("28 and 37, next to each other in a diagonal", closed(new int[] {29, 36, 38}, NONE),
            reachedOf(37), 0);
    }

    /** The neighbours but the gate. */
    private static int[] neighboursOf(int plot) {
        int row = plot / 8;
        int place = plot % 8;
        int[] around = new int[4];
        int found = 0;
        for (int other = 1; other < 40; other++) {
            if (Math.abs(other / 8 - row) + Math.abs(other % 8 - place) == 1) {
                around[found] = other;
                found++;
            }
        }
        return java.util.Arrays.copyOf(around, found);
    }

    /** Plot 9 lies beside both plots at the gate: with both closed, no way leads to its other neighbours. */
    private static boolean isReachedWith(int plot, int open) {
        return plot != 9 || open == 1 || open == 8;
    }

    private static Call reachedOf(int plot) {
        return g -> g.plot(plot, 7);
    }

    /** From the last one to the first one, so that none is cut off before it is closed. */
    private static Preparation closed(int[] plots, int butFor) {
        return g -> {
            for (int i = plots.length - 1; i >= 0; i--) {
                if (plots[i] != butFor) {
                    g.bury(0, plots[i], 3);
                }
            }
        };
    }

    private static void gate() {
        sentence("Terms, Plots", "Plot 0 is the gate: it is always a path.");
        answers("its kind", NOTHING, g -> g.plot(0, 0), PATH);
        for (int kind = CLAY; kind <= PATH; kind++) {
            int to = kind;
            refuses("lay(0, " + kind + ")", NOTHING, g -> g.lay(0, to), INDEX);
            answers("lay(1, " + kind + "), beside it", NOTHING, g -> g.lay(1, to), CLAY);
        }
        refuses("a burial in it", NOTHING, g -> g.bury(0, 0, 1), STATE);
        answers("a burial beside it", NOTHING, g -> g.bury(0, 1, 1), 30);
    }

    private static void kinds() {
        sentence("Terms, Plots", "A plot is of a kind: 0 clay (at first), 1 sand, 2 rock, 3 path.");
        range("lay to a kind", NOTHING, 0, 3, (g, kind) -> g.lay(9, kind), kind -> CLAY, ARGUMENT);
        for (int kind = CLAY; kind <= PATH; kind++) {
            int laid = kind;
            answers("the kind then", g -> g.lay(9, laid), g -> g.plot(9, 0), laid);
        }
    }

    private static void greatestDepths() {
        sentence("Terms, Plots", "The greatest depth is 3 in clay, 2 in sand, 1 in rock, and none in a path.");
        for (int kind = CLAY; kind <= PATH; kind++) {
            int laid = kind;
            Preparation plot = g -> g.lay(9, laid);
            answers("of kind " + kind, plot, g -> g.plot(9, 8), GREATEST_DEPTH[kind]);
            for (int depth = 1; depth <= 3; depth++) {
                int wanted = depth;
                String what = "kind " + kind + " at " + depth;
                if (depth <= GREATEST_DEPTH[kind]) {
                    undoable(what, plot, g -> g.bury(0, 9, wanted), 10 * depth + 20);
                } else {
                    answers(what + ", reason", plot, g -> g.why(0, 9, wanted), kind == PATH ? 1 : 3);
                    refuses(what, plot, g -> g.bury(0, 9, wanted), STATE);
                }
            }
        }
    }

    private static void yearsOfRest() {
        sentence("Terms, Plots", "The years of rest are 30 in clay, 15 in sand and 60 in rock.");
        for (int kind = CLAY; kind <= ROCK; kind++) {
            for (int first = 0; first <= 7; first += 7) {
                rest(kind, first, YEARS_OF_REST[kind]);
            }
        }
    }

    private static void rest(int kind, int first, int rest) {
        Preparation buried = g -> {
            g.lay(9, kind);
            passYears(g, first);
            g.bury(0, 9, 1);
        };
        String what = "kind " + kind + " from " + first + " on";
        Preparation lastYear = later(buried, rest - 1);
        Preparation old = later(buried, rest);
        answers(what + ", in its year", buried, g -> g.burial(9, 1, 2), 0);
        answers(what + ", last year of rest", lastYear, g -> g.burial(9, 1, 2), 0);
        refuses(what + ", last year of rest: clear", lastYear, g -> g.clear(9), STATE);
        answers(what + ", old", old, g -> g.burial(9, 1, 2), 1);
        undoable(what + ", old: clear", old, g -> g.clear(9), 1);
        answers(what + ", a year later", later(buried, rest + 1), g -> g.burial(9, 1, 2), 1);
    }

    private static void burialsInPlots() {
        sentence("Terms, Plots", "In a plot lie burials, each with a depth (1, 2 or 3; 3 is the deepest), a family"
            + " (0 to 9), and a year.");
        Preparation three = g -> {
            g.bury(0, 39, 3);
            g.pass(30);
            g.bury(5, 39, 2);
            g.pass(30);
            g.bury(9, 39, 1);
        };
        int[] families = {9, 5, 0};
        for (int depth = 1; depth <= 3; depth++) {
            int at = depth;
            answers("the family at " + depth, three, g -> g.burial(39, at, 0), families[depth - 1]);
            answers("the year at " + depth, three, g -> g.burial(39, at, 1), 90 - 30 * depth);
            for (int family = 0; family <= 9; family++) {
                int whose = family;
                Preparation buried = g -> g.bury(whose, 39, at);
                answers("of family " + family + " at " + depth, buried, g -> g.burial(39, at, 0), family);
            }
        }
        refuses("no fourth one", three, g -> g.bury(9, 39, 1), STATE);
        refuses("nothing at 0", NOTHING, g -> g.burial(39, 0, 0), INDEX);
        refuses("nothing at 4", NOTHING, g -> g.burial(39, 4, 0), INDEX);
    }

    private static void oldByItsKindNow() {
        sentence("Terms, Plots", "A burial is old in the year y if y is at least its year plus the years of rest of its"
            + " plot (by its kind now).");
        Preparation sandThenRock = g -> {
            g.lay(9, SAND);
            g.bury(0, 9, 1);
            g.pass(15);
            g.clear(9);
            g.lay(9, ROCK);
            g.bury(0, 9, 1);
        };
        answers("15 years after the plot became rock", later(sandThenRock, 15), g -> g.burial(9, 1, 2), 0);
        answers("59 years", later(sandThenRock, 59), g -> g.burial(9, 1, 2), 0);
        answers("60 years", later(sandThenRock, 60), g -> g.burial(9, 1, 2), 1);
        Preparation vault = g -> {
            g.lay(9, SAND);
            g.buildVault(0, 9);
            g.bury(0, 9, 3);
        };
        answers("a vault in sand, 14 years", later(vault, 14), g -> g.burial(9, 3, 2), 0);
        answers("a vault in sand, 15 years", later(vault, 15), g -> g.burial(9, 3, 2), 1);
    }

    private static void open() {
        sentence("Terms, Plots", "A plot is open if it is a path or has no burials.");
        Preparation onlyWay = g -> g.bury(9, 8, 3);
        Call behind = g -> g.plot(2, 7);
        Preparation buried = then(onlyWay, g -> g.bury(0, 1, 3));
        answers("no burials", onlyWay, behind, 1);
        answers("path", then(onlyWay, g -> g.lay(1, PATH)), behind, 1);
        answers("reserved", then(onlyWay, g -> g.reserve(0, 1, 5)), behind, 1);
        answers("a vault without burials", then(onlyWay, g -> g.buildVault(0, 1)), behind, 1);
        answers("a burial", buried, behind, 0);
        for (int kind = CLAY; kind <= ROCK; kind++) {
            int laid = kind;
            Preparation soil = then(onlyWay, g -> g.lay(1, laid));
            answers("no burials, kind " + kind, soil, behind, 1);
            answers("a burial, kind " + kind, then(soil, g -> g.bury(0, 1, 1)), behind, 0);
            answers("plots without burials, kind " + kind, soil, g -> g.count(3), 38);
            answers("plots without burials but one, kind " + kind, then(soil, g -> g.bury(0, 1, 1)), g -> g.count(3),
                37);
        }
        answers("a burial in a vault", then(then(onlyWay, g -> g.buildVault(0, 1)), g -> g.bury(0, 1, 3)), behind, 0);
        answers("a burial that is old", later(buried, 30), behind, 0);
        answers("a cleared burial", then(later(buried, 30), g -> g.clear(1)), behind, 1);
        answers("an undone burial", then(buried, g -> g.undo()), behind, 1);
    }

    private static void reached() {
        sentence("Terms, Plots", "A plot other than the gate is reached if one can come from the gate to a neighbour of"
            + " it, from neighbour to neighbour over open plots, without the plot itself"
            + " (the gate is open; it can be this neighbour itself).");
        Preparation shut = closed(new int[] {1, 8}, NONE);
        answers("1, the gate is its neighbour", shut, reachedOf(1), 1);
        answers("8, the gate is its neighbour", shut, reachedOf(8), 1);
        answers("2, behind 1", shut, reachedOf(2), 0);
        answers("16, behind 8", shut, reachedOf(16), 0);
        answers("9, behind both", shut, reachedOf(9), 0);
        answers("39", shut, reachedOf(39), 0);
        answers("all behind", shut, g -> g.count(4), 37);
        answers("8 closed alone", closed(new int[] {8}, NONE), g -> g.count(4), 0);
        answers("1 closed alone", closed(new int[] {1}, NONE), g -> g.count(4), 0);
        Preparation corner = closed(new int[] {31, 38, 39}, NONE);
        answers("closed itself, one neighbour open", closed(new int[] {38, 39}, NONE), reachedOf(39), 1);
        answers("closed itself, no neighbour open", corner, reachedOf(39), 0);
        answers("a closed plot beside an open way", corner, reachedOf(38), 1);
        answers("a path that is cut off", then(closed(new int[] {31, 38}, NONE), g -> g.lay(39, PATH)),
            reachedOf(39), 0);
    }

    private static void longWays() {
        sentence("Terms, Plots", "from neighbour to neighbour over open plots");
        int[] rows = {8, 9, 10, 11, 12, 13, 14, 25, 26, 27, 28, 29, 30, 31};
        answers("from row to row, the last plot", closed(rows, NONE), reachedOf(39), 1);
        answers("every plot", closed(rows, NONE), g -> g.count(4), 0);
        answers("the last one closed before it", then(closed(rows, NONE), g -> g.bury(1, 38, 1)), reachedOf(39), 0);
        Preparation early = then(closed(rows, NONE), g -> g.bury(1, 15, 1));
        answers("closed early: the last plot", early, reachedOf(39), 0);
        answers("closed early: the next one", early, reachedOf(23), 0);
        answers("closed early: itself", early, reachedOf(15), 1);
        int[] columns = {1, 9, 17, 25, 11, 19, 27, 35, 5, 13, 21, 29, 15, 23, 31, 39};
        answers("from column to column, the last row", closed(columns, NONE), reachedOf(39), 1);
        answers("the place 7 of the first row", closed(columns, NONE), reachedOf(7), 1);
        answers("every plot, by columns", closed(columns, NONE), g -> g.count(4), 0);
        Preparation cut = then(closed(columns, NONE), g -> g.bury(1, 37, 1));
        answers("cut in the last row", cut, reachedOf(38), 0);
        answers("cut in the last row: before it", cut, reachedOf(29), 1);
    }

    private static void gateIsReached() {
        sentence("Terms, Plots", "The gate is reached.");
        answers("new", NOTHING, reachedOf(0), 1);
        answers("all closed around it", closed(new int[] {1, 8}, NONE), reachedOf(0), 1);
    }

    private static void vaults() {
        sentence("Terms, Plots", "A plot can be a vault of a family; the greatest depth of a vault is 3 in clay and in"
            + " sand (a vault in rock cannot be).");
        for (int kind = CLAY; kind <= SAND; kind++) {
            int laid = kind;
            Preparation plot = g -> g.lay(9, laid);
            Preparation vault = then(plot, g -> g.buildVault(5, 9));
            undoable("a vault in kind " + kind, plot, g -> g.buildVault(5, 9), 100);
            answers("the family of it", vault, g -> g.plot(9, 4), 5);
            answers("greatest depth before, kind " + kind, plot, g -> g.plot(9, 8), GREATEST_DEPTH[kind]);
            answers("greatest depth of the vault, kind " + kind, vault, g -> g.plot(9, 8), 3);
            undoable("a burial at 3 in it", vault, g -> g.bury(5, 9, 3), 80);
        }
        refuses("a vault in rock", g -> g.lay(9, ROCK), g -> g.buildVault(5, 9), STATE);
        refuses("sand without a vault at 3", g -> g.lay(9, SAND), g -> g.bury(5, 9, 3), STATE);
    }

    // ---- families and reservations

    private static void families() {
        sentence("Terms, Families and reservations",
            "There are 10 families; each is of the parish or not (at first all are).");
        range("of the parish", NOTHING, 0, 9, (g, family) -> g.family(family, 0), family -> 1, INDEX);
        Preparation one = g -> g.setParish(9, false);
        answers("not of the parish", one, g -> g.family(9, 0), 0);
        answers("the one beside it", one, g -> g.family(8, 0), 1);
    }

    private static void firstYear() {
        sentence("Terms, Families and reservations", "The present year is at first 0.");
        answers("the year", NOTHING, g -> g.count(0), 0);
        answers("one year later", g -> g.pass(1), g -> g.count(0), 1);
        answers("the year of a burial", g -> g.bury(0, 1, 1), g -> g.burial(1, 1, 1), 0);
        answers("a reservation of one year", g -> g.reserve(0, 1, 1), g -> g.plot(1, 6), 1);
    }

    private static void lapse() {
        sentence("Terms, Families and reservations", "A plot can be reserved for a family up to a year;"
            + " the reservation has lapsed if the present year is greater than this year.");
        Preparation reserved = g -> g.reserve(3, 1, 5);
        int[] years = {0, 4, 5, 6, 7};
        for (int year : years) {
            boolean lasts = year <= 5;
            Preparation then = later(reserved, year);
            answers("reservations in year " + year, then, g -> g.count(5), lasts ? 1 : 0);
            answers("holder in year " + year, then, g -> g.plot(1, 1), lasts ? 3 : NONE);
            answers("another family in year " + year, then, g -> g.why(4, 1, 1), lasts ? 2 : 0);
            answers("5 less in year " + year, then, g -> g.fee(3, 1, 1), lasts ? 25 : 30);
            answers("the family of it in year " + year, then, g -> g.plot(1, 5), 3);
        }
    }

    private static void holder() {
        sentence("Terms, Families and reservations", "The holder of a plot is: the family of its vault, if it is one;"
            + " else the family of its reservation, if that has not lapsed; else the family of the least deep one of"
            + " its burials that are not old; else there is none.");
        Call holder = g -> g.plot(9, 1);
        answers("none", NOTHING, holder, NONE);
        answers("a path", g -> g.lay(9, PATH), holder, NONE);
        answers("an empty vault", g -> g.buildVault(0, 9), holder, 0);
        Preparation vault = g -> {
            g.reserve(1, 9, 1);
            g.pass(2);
            g.buildVault(2, 9);
            g.bury(2, 9, 3);
        };
        answers("a vault, after another's reservation", vault, holder, 2);
        answers("a vault whose burial is old", later(vault, 30), holder, 2);
        Preparation reserved = g -> {
            g.bury(1, 9, 3);
            g.pass(30);
            g.reserve(2, 9, 10);
        };
        answers("a reservation above an old burial", reserved, holder, 2);
        answers("in its last year", later(reserved, 10), holder, 2);
        answers("lapsed", later(reserved, 11), holder, NONE);
        Preparation both = then(reserved, g -> g.bury(2, 9, 2));
        answers("lapsed, its burial not old", later(both, 11), holder, 2);
        answers("lapsed, last year of the burial's rest", later(both, 29), holder, 2);
        answers("lapsed, the burial old", later(both, 30), holder, NONE);
        Preparation three = then(later(both, 30), g -> g.bury(3, 9, 1));
        answers("the least deep one of three", three, holder, 3);
        answers("the least deep one in its last year", later(three, 29), holder, 3);
        answers("all old", later(three, 30), holder, NONE);
    }

    // ---- burials

    /** The reason that why tells; bury is refused for it, or carried out. */
    private static void reason(String what, Preparation preparation, int family, int plot, int depth, int want) {
        onlyTells(what, preparation, g -> g.why(family, plot, depth), want);
        if (want == 0) {
            answers(what + ": bury", preparation, g -> g.bury(family, plot, depth) > 0 ? 1 : 0, 1);
        } else {
            refuses(what + ": bury", preparation, g -> g.bury(family, plot, depth), STATE);
        }
    }

    private static final String REASONS = "A burial of a family in a plot at a depth is refused for the first of these"
        + " reasons that holds: ";

    private static Preparation thenShut(Preparation before) {
        return thenAll(before, SHUT);
    }

    private static void reasonPath() {
        sentence("Terms, Burials", REASONS + "1: the plot is a path;");
        Preparation path = g -> g.lay(20, PATH);
        reason("a path, depth 1", path, 0, 20, 1, 1);
        reason("a path, depth 3", path, 0, 20, 3, 1);
        reason("the gate", NOTHING, 0, 0, 1, 1);
        reason("no path", NOTHING, 0, 20, 3, 0);
        reason("rock, the last kind that is no path", g -> g.lay(20, ROCK), 0, 20, 1, 0);
        reason("a path that is not reached", thenShut(path), 0, 20, 1, 1);
        reason("no path, not reached", SHUT, 0, 20, 1, 5);
    }

    private static void reasonHeld() {
        sentence("Terms, Burials", REASONS + "2: another family holds it;");
        Preparation reserved = g -> g.reserve(1, 20, 9);
        reason("another's reservation", reserved, 0, 20, 3, 2);
        reason("one's own reservation", reserved, 1, 20, 3, 0);
        Preparation rock = g -> {
            g.lay(20, ROCK);
            g.reserve(1, 20, 9);
        };
        reason("held, and too deep", rock, 0, 20, 2, 2);
        reason("one's own, too deep", rock, 1, 20, 2, 3);
        Preparation buried = g -> g.bury(1, 20, 2);
        reason("held, and a burial there", buried, 0, 20, 2, 2);
        reason("held, above the burial", buried, 0, 20, 1, 2);
        reason("one's own burial there", buried, 1, 20, 2, 4);
        reason("above one's own burial", buried, 1, 20, 1, 0);
        reason("another's burial, its last year of rest", later(buried, 29), 0, 20, 1, 2);
        reason("another's burial, old", later(buried, 30), 0, 20, 1, 0);
        reason("held, and not reached", thenShut(reserved), 0, 20, 1, 2);
        reason("one's own, not reached", thenShut(reserved), 1, 20, 1, 5);
        Preparation vault = g -> g.buildVault(1, 20);
        reason("another's vault, not its deepest place", vault, 0, 20, 1, 2);
        reason("one's own vault, not its deepest place", vault, 1, 20, 1, 7);
        Preparation opened = then(vault, g -> g.bury(1, 20, 3));
        reason("another's vault, opened this year", opened, 0, 20, 2, 2);
        reason("one's own vault, opened this year", opened, 1, 20, 2, 6);
        reason("another's vault whose burial is old", later(opened, 30), 0, 20, 2, 2);
    }

    private static void reasonTooDeep() {
        sentence("Terms, Burials", REASONS + "3: the depth is greater than the greatest depth;");
        Preparation sand = g -> g.lay(20, SAND);
        reason("sand at 2", sand, 0, 20, 2, 0);
        reason("sand at 3", sand, 0, 20, 3, 3);
        Preparation buried = then(sand, g -> g.bury(0, 20, 2));
        reason("sand at 3, a burial at 2", buried, 0, 20, 3, 3);
        reason("sand at 2, a burial at 2", buried, 0, 20, 2, 4);
        Preparation rock = g -> g.lay(20, ROCK);
        reason("rock at 1", rock, 0, 20, 1, 0);
        reason("rock at 2", rock, 0, 20, 2, 3);
        reason("rock at 2, not reached", thenShut(rock), 0, 20, 2, 3);
        reason("rock at 1, not reached", thenShut(rock), 0, 20, 1, 5);
        reason("clay at 3", NOTHING, 0, 20, 3, 0);
    }

    private static void reasonBurialThere() {
        sentence("Terms, Burials", REASONS + "4: a burial lies in it at this depth or less deep;");
        for (int lies = 1; lies <= 3; lies++) {
            int depthOfIt = lies;
            Preparation buried = g -> g.bury(0, 20, depthOfIt);
            for (int depth = 1; depth <= 3; depth++) {
                reason("one at " + lies + ", now at " + depth, buried, 0, 20, depth, depth < lies ? 0 : 4);
                reason("an old one at " + lies + ", now at " + depth, later(buried, 30), 1, 20, depth,
                    depth < lies ? 0 : 4);
            }
        }
        Preparation two = g -> {
            g.bury(0, 20, 3);
            g.bury(0, 20, 1);
        };
        reason("between two", two, 0, 20, 2, 4);
        reason("in the next plot", two, 0, 21, 3, 0);
        Preparation cut = thenShut(g -> g.bury(0, 20, 2));
        reason("one there, and not reached", cut, 0, 20, 2, 4);
        reason("none there, not reached", cut, 0, 20, 1, 5);
        Preparation vault = g -> {
            g.buildVault(0, 20);
            g.bury(0, 20, 3);
        };
        reason("one there, and the vault opened this year", vault, 0, 20, 3, 4);
        reason("none there, the vault opened this year", vault, 0, 20, 2, 6);
        reason("one there two years ago, in a vault", later(vault, 2), 0, 20, 3, 4);
    }

    private static void reasonNotReached() {
        sentence("Terms, Burials", REASONS + "5: the plot is not reached;");
        reason("beside the gate", g -> g.bury(9, 8, 3), 0, 1, 1, 0);
        reason("behind one of two", g -> g.bury(9, 8, 3), 0, 9, 1, 0);
        reason("behind both", SHUT, 0, 9, 1, 5);
        Preparation vault = thenShut(g -> g.buildVault(0, 20));
        reason("a vault that is not reached, not its deepest place", vault, 0, 20, 1, 5);
        reason("a vault that is not reached, its deepest place", vault, 0, 20, 3, 5);
        Preparation opened = thenShut(g -> {
            g.buildVault(0, 20);
            g.bury(0, 20, 3);
        });
        reason("a vault that is not reached, opened this year", opened, 0, 20, 2, 5);
        Preparation cleared = then(later(opened, 30), g -> g.clear(1));
        reason("a vault that is reached again", cleared, 0, 20, 2, 0);
    }

    private static void reasonTwoYears() {
        sentence("Terms, Burials", REASONS + "6: it is a vault that has a burial, and the present year is less than"
            + " 2 years after the latest year of its burials;");
        Preparation vault = g -> {
            g.pass(5);
            g.buildVault(0, 20);
            g.bury(0, 20, 3);
        };
        reason("no burial", g -> g.buildVault(0, 20), 0, 20, 3, 0);
        reason("this year", vault, 0, 20, 2, 6);
        reason("1 year after", later(vault, 1), 0, 20, 2, 6);
        reason("2 years after", later(vault, 2), 0, 20, 2, 0);
        reason("1 year after, not the deepest place", later(vault, 1), 0, 20, 1, 6);
        reason("2 years after, not the deepest place", later(vault, 2), 0, 20, 1, 7);
        Preparation second = then(later(vault, 2), g -> g.bury(0, 20, 2));
        reason("1 year after the latest", later(second, 1), 0, 20, 1, 6);
        reason("2 years after the latest", later(second, 2), 0, 20, 1, 0);
        Preparation cleared = then(later(vault, 30), g -> g.clear(20));
        reason("no burial any more", cleared, 0, 20, 3, 0);
        reason("no burial any more, not the deepest place", cleared, 0, 20, 1, 7);
        reason("no vault, this year", g -> g.bury(0, 20, 3), 0, 20, 2, 0);
        reason("the next plot's vault", vault, 0, 21, 3, 0);
    }

    private static void reasonOrderOfVaults() {
        sentence("Terms, Burials", REASONS + "7: it is a vault, and the depth is not the greatest one at which"
            + " (up to the greatest depth) no burial lies at this depth or less deep"
            + " (vaults are filled from the deepest place on).");
        for (int kind = CLAY; kind <= SAND; kind++) {
            int laid = kind;
            Preparation empty = g -> {
                g.lay(20, laid);
                g.buildVault(0, 20);
            };
            Preparation one = later(then(empty, g -> g.bury(0, 20, 3)), 2);
            Preparation two = later(then(one, g -> g.bury(0, 20, 2)), 2);
            Preparation full = later(then(two, g -> g.bury(0, 20, 1)), 2);
            int[][] wanted = {{7, 7, 0}, {7, 0, 4}, {0, 4, 4}, {4, 4, 4}};
            Preparation[] filled = {empty, one, two, full};
            for (int burials = 0; burials <= 3; burials++) {
                for (int depth = 1; depth <= 3; depth++) {
                    reason("kind " + kind + ", " + burials + " burials, now at " + depth, filled[burials], 0, 20, depth,
                        wanted[burials][depth - 1]);
                }
            }
        }
        reason("no vault, not the deepest place", NOTHING, 0, 20, 1, 0);
    }

    private static void fees() {
        sentence("Terms, Burials", "The fee of a burial is 10 * depth + 20, and 30 more in a vault; all this twice for"
            + " a family that is not of the parish; then 5 less, if the plot has a reservation of this family that has"
            + " not lapsed.");
        int[] plain = {30, 40, 50};
        int[] vault = {60, 70, 80};
        for (int depth = 1; depth <= 3; depth++) {
            int at = depth;
            Preparation stranger = g -> g.setParish(6, false);
            Call fee = g -> g.fee(6, 20, at);
            answers("depth " + depth, NOTHING, fee, plain[depth - 1]);
            answers("not of the parish, depth " + depth, stranger, fee, 2 * plain[depth - 1]);
            answers("vault, depth " + depth, g -> g.buildVault(6, 20), fee, vault[depth - 1]);
            answers("vault, not of the parish, depth " + depth, then(stranger, g -> g.buildVault(6, 20)), fee,
                2 * vault[depth - 1]);
            Preparation own = g -> g.reserve(6, 20, 4);
            answers("reserved, depth " + depth, own, fee, plain[depth - 1] - 5);
            answers("reserved, its last year, depth " + depth, later(own, 4), fee, plain[depth - 1] - 5);
            answers("reserved, lapsed, depth " + depth, later(own, 5), fee, plain[depth - 1]);
            answers("reserved, not of the parish, depth " + depth, then(stranger, g -> g.reserve(6, 20, 4)), fee,
                2 * plain[depth - 1] - 5);
            answers("another's reservation, depth " + depth, g -> g.reserve(7, 20, 4), fee, plain[depth - 1]);
            answers("reservation in a vault is gone, depth " + depth, then(own, g -> g.buildVault(6, 20)), fee,
                vault[depth - 1]);
        }
    }

    private static void costs() {
        sentence("Terms, Burials", "A reservation of n years costs 2 * n, twice as much for a family that is not of the"
            + " parish. A vault costs 100, likewise.");
        Preparation stranger = g -> g.setParish(6, false);
        int[] years = {1, 2, 49, 50};
        for (int n : years) {
            undoable("reservation of " + n, NOTHING, g -> g.reserve(6, 20, n), 2 * n);
            undoable("reservation of " + n + ", not of the parish", stranger, g -> g.reserve(6, 20, n), 4 * n);
        }
        undoable("vault", NOTHING, g -> g.buildVault(6, 20), 100);
        undoable("vault, not of the parish", stranger, g -> g.buildVault(6, 20), 200);
        undoable("vault of another family", stranger, g -> g.buildVault(5, 20), 100);
    }

    // ---- undo

    private static void savedWithoutChange() {
        sentence("Terms, Undo", "Each method that is marked \"undoable\" and does not throw an exception saves the"
            + " state from before it (also if it changes nothing): all but the buffer and the saved states.");
        undoable("lay to the same kind", NOTHING, g -> g.lay(1, CLAY), CLAY);
        undoable("setParish to the same", NOTHING, g -> g.setParish(1, true), 1);
        undoable("clear of an empty plot", NOTHING, g -> g.clear(1), 0);
        undoable("clear of a path", NOTHING, g -> g.clear(0), 0);
        undoable("pass without a reservation", NOTHING, g -> g.pass(1), 0);
        Preparation refused = text("b0:0,1");
        answers("load whose first entry is refused", refused, g -> g.load(), 0);
        answers("load whose first entry is refused: saved states", then(refused, g -> g.load()), g -> g.count(8), 1);
        answers("a question saves nothing", then(NOTHING, g -> g.why(0, 1, 1)), g -> g.count(8), 0);
        answers("append saves nothing", then(NOTHING, g -> g.append('b')), g -> g.count(8), 0);
        answers("clearBuffer saves nothing", then(text("b"), g -> g.clearBuffer()), g -> g.count(8), 0);
        Preparation textLater = then(then(NOTHING, g -> g.lay(1, SAND)), g -> g.append('b'));
        answers("undo leaves the buffer", then(textLater, g -> g.undo()), g -> g.clearBuffer(), 1);
        answers("undo brings the kind back", then(textLater, g -> g.undo()), g -> g.plot(1, 0), CLAY);
        Preparation cleared = then(then(text("b0"), g -> g.lay(1, SAND)), g -> g.clearBuffer());
        answers("undo brings no buffer back", then(cleared, g -> g.undo()), g -> g.clearBuffer(), 0);
    }

    private static void sixSavedStates() {
        sentence("Terms, Undo", "At most 6 states are saved; the oldest one is dropped first.");
        for (int made = 0; made <= 14; made++) {
            int calls = made;
            Preparation years = g -> {
                for (int i = 0; i < calls; i++) {
                    g.pass(1);
                }
            };
            int saved = Math.min(calls, 6);
            answers(calls + " changes", years, g -> g.count(8), saved);
            BurialGround g = ready(years);
            for (int left = saved - 1; left >= 0; left--) {
                check(calls + " changes, undo", g.undo(), left);
                check(calls + " changes, the year with " + left + " left", g.count(0), calls - saved + left);
            }
            Checks.same("Terms, Undo: undo after the last of " + calls, endingOf(g, x -> x.undo()), STATE);
            check(calls + " changes, the oldest state that is left", g.count(0), calls - saved);
        }
        droppedAfterUndo();
    }

    private static void droppedAfterUndo() {
        BurialGround g = new BurialGround();
        for (int i = 0; i < 7; i++) {
            g.pass(1);
        }
        for (int i = 0; i < 3; i++) {
            g.undo();
        }
        for (int i = 0; i < 4; i++) {
            g.pass(10);
        }
        check("7 changes, 3 undone, 4 changes", g.count(8), 6);
        int[] years = {34, 24, 14, 4, 3, 2};
        for (int i = 0; i < 6; i++) {
            check("then undo " + (i + 1), g.undo(), 5 - i);
            check("then undo " + (i + 1) + ": the year", g.count(0), years[i]);
        }
    }

    // ---- exceptions

    private static void firstNamedException() {
        sentence("Terms, Exceptions", "If several exceptions apply, the one that is named first in the throws clause is"
            + " thrown.");
        Preparation last = g -> passYears(g, 2000);
        Preparation used = g -> g.bury(0, 1, 1);
        refuses("lay: no plot, no kind", NOTHING, g -> g.lay(40, 4), INDEX);
        refuses("lay: the gate, no kind", NOTHING, g -> g.lay(0, 4), INDEX);
        refuses("lay: no kind, in use", used, g -> g.lay(1, 4), ARGUMENT);
        refuses("lay: in use alone", used, g -> g.lay(1, 3), STATE);
        refuses("pass: too many years, and above 2000", last, g -> g.pass(101), ARGUMENT);
        refuses("pass: no years, in 2000", last, g -> g.pass(0), ARGUMENT);
        refuses("pass: above 2000 alone", last, g -> g.pass(1), STATE);
        refuses("bury: no family, no depth", NOTHING, g -> g.bury(10, 1, 4), INDEX);
        refuses("bury: no plot, no depth", NOTHING, g -> g.bury(0, 40, 4), INDEX);
        refuses("bury: no family, a path", NOTHING, g -> g.bury(10, 0, 1), INDEX);
        refuses("bury: no depth, a path", NOTHING, g -> g.bury(0, 0, 4), ARGUMENT);
        refuses("bury: a path alone", NOTHING, g -> g.bury(0, 0, 3), STATE);
        refuses("reserve: no family, no years", NOTHING, g -> g.reserve(10, 1, 51), INDEX);
        refuses("reserve: no plot, no years", NOTHING, g -> g.reserve(0, 40, 51), INDEX);
        refuses("reserve: no family, a path", NOTHING, g -> g.reserve(10, 0, 1), INDEX);
        refuses("reserve: no years, a path", NOTHING, g -> g.reserve(0, 0, 51), ARGUMENT);
        refuses("reserve: a path alone", NOTHING, g -> g.reserve(0, 0, 50), STATE);
        refuses("buildVault: no family, a path", NOTHING, g -> g.buildVault(10, 0), INDEX);
        refuses("buildVault: a path alone", NOTHING, g -> g.buildVault(9, 0), STATE);
        refuses("append: full, no character", text("b".repeat(60)), g -> g.append(32), ARGUMENT);
        refuses("append: full alone", text("b".repeat(60)), g -> g.append(33), STATE);
        firstNamedExceptionOfQuestions();
    }

    private static void firstNamedExceptionOfQuestions() {
        refuses("plot: no plot, no property", NOTHING, g -> g.plot(40, 9), INDEX);
        refuses("plot: no property alone", NOTHING, g -> g.plot(39, 9), ARGUMENT);
        refuses("burial: no plot, no property", NOTHING, g -> g.burial(40, 1, 4), INDEX);
        refuses("burial: no depth, no property", NOTHING, g -> g.burial(39, 4, 4), INDEX);
        refuses("burial: no property alone", NOTHING, g -> g.burial(39, 3, 4), ARGUMENT);
        refuses("family: no family, no property", NOTHING, g -> g.family(10, 6), INDEX);
        refuses("family: no property alone", NOTHING, g -> g.family(9, 6), ARGUMENT);
        refuses("why: no family, no depth", NOTHING, g -> g.why(10, 39, 4), INDEX);
        refuses("why: no plot, no depth", NOTHING, g -> g.why(9, 40, 4), INDEX);
        refuses("why: no depth alone", NOTHING, g -> g.why(9, 39, 4), ARGUMENT);
        refuses("fee: no family, no depth", NOTHING, g -> g.fee(10, 39, 4), INDEX);
        refuses("fee: no plot, no depth", NOTHING, g -> g.fee(9, 40, 4), INDEX);
        refuses("fee: no depth alone", NOTHING, g -> g.fee(9, 39, 4), ARGUMENT);
        refuses("yearFor: no family, no depth", NOTHING, g -> g.yearFor(10, 39, 4), INDEX);
        refuses("yearFor: no plot, no depth", NOTHING, g -> g.yearFor(9, 40, 4), INDEX);
        refuses("yearFor: no depth alone", NOTHING, g -> g.yearFor(9, 39, 4), ARGUMENT);
    }

    private static void nothingChanged() {
        sentence("Terms, Exceptions", "A call that throws an exception changes nothing.");
        Preparation full = g -> {
            g.reserve(0, 20, 3);
            g.pass(1);
            g.lay(2, ROCK);
            g.setParish(1, false);
            g.buildVault(2, 3);
            g.bury(2, 3, 3);
            g.bury(1, 9, 2);
            g.clear(4);
            write(g, "b0:1,1;");
        };
        refuses("lay", full, g -> g.lay(3, CLAY), STATE);
        refuses("pass", full, g -> g.pass(0), ARGUMENT);
        refuses("setParish", full, g -> g.setParish(10, true), INDEX);
        refuses("bury", full, g -> g.bury(2, 3, 2), STATE);
        refuses("reserve", full, g -> g.reserve(1, 20, 1), STATE);
        refuses("buildVault", full, g -> g.buildVault(1, 20), STATE);
        refuses("clear", full, g -> g.clear(9), STATE);
        refuses("append", full, g -> g.append(127), ARGUMENT);
        refuses("load", full, g -> g.load(), ARGUMENT);
        Preparation undone = g -> {
            full.of(g);
            for (int i = 0; i < 6; i++) {
                g.undo();
            }
        };
        refuses("undo", undone, g -> g.undo(), STATE);
    }

    private static void constantNone() {
        sentence("Terms", "The constants: `NONE = -1`: There is nothing to return.");
        check("NONE", BurialGround.NONE, -1);
        answers("nothing to return", NOTHING, g -> g.burial(1, 1, 0), BurialGround.NONE);
        answers("family 0 is something", g -> g.bury(0, 1, 1), g -> g.burial(1, 1, 0), 0);
    }

    public static void main(String[] args) {
        callsOfAnObject();
        plotNumbers();
        neighbours();
        gate();
        kinds();
        greatestDepths();
        yearsOfRest();
        burialsInPlots();
        oldByItsKindNow();
        open();
        reached();
        longWays();
        gateIsReached();
        vaults();
        families();
        firstYear();
        lapse();
        holder();
        reasonPath();
        reasonHeld();
        reasonTooDeep();
        reasonBurialThere();
        reasonNotReached();
        reasonTwoYears();
        reasonOrderOfVaults();
        fees();
        costs();
        savedWithoutChange();
        sixSavedStates();
        firstNamedException();
        nothingChanged();
        constantNone();
        Checks.end();
    }
}
