/** The boundary cases of the input text and of the promises 9 to 13: the buffer, the list, load and undo. */
public final class TextsBoundaryTest extends Boundary {
    private static final int FIRST_CODE = 33;
    private static final int LAST_CODE = 126;
    private static final String DIGITS = "0123456789";
    private static final String SIXTY = "b0:1,3;b1:2,3;b2:3,3;b3:4,3;b4:5,3;b5:6,3;b6:7,3;r7:12,10;r8";
    private static final String FULL_LIST = "b0:1,3;b1:2,3;b2:3,3;b3:4,3;b4:5,3;b5:16,3;r9:39,50;r8:38,50";

    private TextsBoundaryTest() {
    }

    // ---- input text

    private static void buffer() {
        sentence("Terms, Input text", "The buffer has at most 60 characters.");
        check("the text of this test", SIXTY.length(), 60);
        String one = "b";
        answers("the 59th", text(one.repeat(58)), g -> g.append('b'), 59);
        answers("the 60th", text(one.repeat(59)), g -> g.append('b'), 60);
        refuses("the 61st", text(one.repeat(60)), g -> g.append('b'), STATE);
        answers("the 60th of a text", text(SIXTY.substring(0, 59)), g -> g.append('8'), 60);
        refuses("the 61st of a text", text(SIXTY), g -> g.append(':'), STATE);
        answers("its length after a refused one", g -> {
            text(SIXTY).of(g);
            endingOf(g, x -> x.append(':'));
        }, g -> g.clearBuffer(), 60);
    }

    /** All of the 94 characters: those that may follow are no error, all others are one. */
    private static void follows(String before, String allowed) {
        for (int code = FIRST_CODE; code <= LAST_CODE; code++) {
            boolean fine = allowed.indexOf(code) >= 0;
            String text = before + (char) code;
            answers(text, text(text), g -> g.firstError(), fine ? text.length() : before.length());
        }
    }

    private static void lettersAndFamilies() {
        sentence("Terms, Input text",
            "each one \"b\" or \"r\", the digit of a family, \":\", the number of a plot (0 to 39), \",\" and a"
            + " number");
        follows("", "br");
        follows("b", DIGITS);
        follows("r", DIGITS);
        for (int family = 0; family <= 9; family++) {
            follows("b" + family, ":");
            follows("r" + family, ":");
        }
    }

    private static void plotsInTexts() {
        sentence("Terms, Input text", "the number of a plot (0 to 39), \",\" and a number,"
            + " both numbers without leading zeros");
        follows("b0:", DIGITS);
        follows("r9:", DIGITS);
        follows("b0:0", ",");
        for (int tens = 1; tens <= 9; tens++) {
            follows("b0:" + tens, tens <= 3 ? "," + DIGITS : ",");
            follows("r9:" + tens, tens <= 3 ? "," + DIGITS : ",");
        }
        for (int plot = 10; plot <= 39; plot++) {
            follows("b0:" + plot, ",");
        }
        entry("b0:39,3", g -> g.burial(39, 3, 0), 0);
        wrongAt("b0:40,3", 4);
        wrongAt("b0:00,3", 4);
        wrongAt("b0:01,3", 4);
        wrongAt("b0:039,3", 4);
        wrongAt("b0:100,3", 5);
        wrongAt("b0:390,3", 5);
        wrongAt("b0:,3", 3);
        wrongAt("b0:-1,3", 3);
        wrongAt("b0:+1,3", 3);
    }

    private static void depthsInTexts() {
        sentence("Terms, Input text", "for \"b\" a depth (1 to 3)");
        follows("b0:1,", "123");
        follows("b0:0,", "123");
        follows("b0:39,", "123");
        for (int depth = 1; depth <= 3; depth++) {
            int at = depth;
            follows("b0:1," + depth, ";");
            entry("b0:1," + depth, g -> g.burial(1, at, 3), 10 * depth + 20);
        }
        wrongAt("b0:1,0", 5);
        wrongAt("b0:1,4", 5);
        wrongAt("b0:1,03", 5);
        wrongAt("b0:1,10", 6);
        wrongAt("b0:1,30", 6);
    }

    private static void yearsInTexts() {
        sentence("Terms, Input text", "for \"r\" years (1 to 50)");
        follows("r0:1,", "123456789");
        for (int years = 1; years <= 4; years++) {
            follows("r0:1," + years, ";" + DIGITS);
        }
        follows("r0:1,5", ";0");
        for (int years = 6; years <= 50; years++) {
            follows("r0:1," + years, ";");
        }
        for (int years = 1; years <= 50; years++) {
            entry("r0:1," + years, g -> g.plot(1, 6), years);
        }
        wrongAt("r0:1,0", 5);
        wrongAt("r0:1,05", 5);
        wrongAt("r0:1,51", 6);
        wrongAt("r0:1,60", 6);
        wrongAt("r0:1,100", 7);
        wrongAt("r0:1,500", 7);
    }

    /** A complete list of one entry, carried out. */
    private static void entry(String text, Call tells, long want) {
        answers(text + ", first error", text(text), g -> g.firstError(), text.length());
        answers(text + ", load", text(text), g -> g.load(), 1);
        answers(text + ", what it did", then(text(text), g -> g.load()), tells, want);
    }

    private static void wrongAt(String text, int index) {
        onlyTells(text + ", first error", text(text), g -> g.firstError(), index);
        refuses(text + ", load", text(text), g -> g.load(), ARGUMENT);
    }

    private static void separators() {
        sentence("Terms, Input text", "A list is one or more entries separated by \";\"");
        follows("b0:1,3;", "br");
        follows("r0:1,5;", "br");
        follows("r0:1,10;b1:2,3;", "br");
        follows("r0:1,10;b1:2,3", ";");
        follows("r0:1,10;b1:2", "," + DIGITS);
        follows("b1:2,3;r0:1,1", ";" + DIGITS);
        follows("r1:2,3;b0:1,1", ";");
        follows("b1:20,3;b0:1", "," + DIGITS);
        answers("one", text("b0:1,3"), g -> g.load(), 1);
        answers("two", text("b0:1,3;r1:2,50"), g -> g.load(), 2);
        answers("eight of sixty characters", text(FULL_LIST), g -> g.load(), 8);
        check("the length of those eight", FULL_LIST.length(), 60);
        wrongAt(";", 0);
        wrongAt(";b0:1,3", 0);
        wrongAt("b0:1,3;;b0:2,3", 7);
        wrongAt("b0:1,3,b0:2,3", 6);
        wrongAt("b0:1,3b0:2,3", 6);
        refuses("none: an empty buffer", NOTHING, g -> g.load(), ARGUMENT);
        refuses("a second one that is empty", text("b0:1,3;"), g -> g.load(), ARGUMENT);
    }

    private static void syntaxErrors() {
        sentence("Terms, Input text", "The buffer is read from left to right; a character is a syntax error if no list,"
            + " of any length, begins with the characters before it and this character.");
        answers("a list that goes on beyond the buffer", text(SIXTY), g -> g.firstError(), 60);
        answers("a list that could only end beyond it", text("b0:1,3;".repeat(8) + "b0:1"), g -> g.firstError(), 60);
        answers("a separator at the end of a full buffer", text("b0:10,3;".repeat(7) + "r0:1"), g -> g.firstError(),
            60);
        answers("an error at the last character", text("b0:1,3;".repeat(8) + "b0:;"), g -> g.firstError(), 59);
        answers("an error in the first entry of two", text("b0:1,4;x"), g -> g.firstError(), 5);
        answers("the first of two errors", text("b0:1,3x;y"), g -> g.firstError(), 6);
        answers("what follows an error is not read", text("xb0:1,3"), g -> g.firstError(), 0);
        answers("what a plot holds is no matter of syntax", text("b0:0,3;b0:0,3"), g -> g.firstError(), 13);
    }

    // ---- promise 9

    private static void append() {
        sentence("Promise 9, append", "Returns the new length of the buffer.");
        for (int length = 0; length < 60; length++) {
            answers("at " + length, text("~".repeat(length)), g -> g.append('!'), length + 1);
        }
        sentence("Promise 9, append", "Throws `IllegalArgumentException` if code is not 33 to 126");
        range("append", NOTHING, FIRST_CODE, LAST_CODE, (g, code) -> g.append(code), code -> 1, ARGUMENT);
        refuses("append 32, a space", text("b"), g -> g.append(' '), ARGUMENT);
        refuses("append 0", text("b"), g -> g.append(0), ARGUMENT);
        refuses("append 10", text("b"), g -> g.append('\n'), ARGUMENT);
        sentence("Promise 9, append", "Throws `IllegalStateException` if the buffer has 60 characters");
        answers("59", text("~".repeat(59)), g -> g.append(LAST_CODE), 60);
        refuses("60", text("~".repeat(60)), g -> g.append(LAST_CODE), STATE);
        answers("cleared before", then(text("~".repeat(60)), g -> g.clearBuffer()), g -> g.append(LAST_CODE), 1);
        answers("loaded before", then(text(FULL_LIST), g -> g.load()), g -> g.append(LAST_CODE), 1);
    }

    // ---- promise 10

    private static void clearBuffer() {
        sentence("Promise 10, clearBuffer", "Clears the buffer.");
        Preparation cleared = then(text(SIXTY), g -> g.clearBuffer());
        answers("the length then", cleared, g -> g.clearBuffer(), 0);
        answers("the first error then", cleared, g -> g.firstError(), 0);
        refuses("nothing to load then", cleared, g -> g.load(), ARGUMENT);
        answers("a new text, first error", thenAll(cleared, text("b0:1,3")), g -> g.firstError(), 6);
        answers("a new text, load", thenAll(cleared, text("b0:1,3")), g -> g.load(), 1);
        answers("a half entry is forgotten", thenAll(then(text("b0:"), g -> g.clearBuffer()), text("1")),
            g -> g.firstError(), 0);
        sentence("Promise 10, clearBuffer", "Returns the length that it had.");
        onlyTells("of an empty one", NOTHING, g -> g.clearBuffer(), 0);
        for (int length : new int[] {1, 2, 59, 60}) {
            answers("of " + length, text("~".repeat(length)), g -> g.clearBuffer(), length);
        }
    }

    // ---- promise 11

    private static void firstError() {
        sentence("Promise 11, firstError", "Returns the index of the first character that is a syntax error;"
            + " the length of the buffer if there is none.");
        onlyTells("empty", NOTHING, g -> g.firstError(), 0);
        onlyTells("the first of one", text("x"), g -> g.firstError(), 0);
        onlyTells("none in one", text("r"), g -> g.firstError(), 1);
        onlyTells("the last of a list", text("b0:1,3!"), g -> g.firstError(), 6);
        onlyTells("none in a list", text("b0:1,3"), g -> g.firstError(), 6);
        onlyTells("none in sixty", text(FULL_LIST), g -> g.firstError(), 60);
        onlyTells("the last of sixty", text(FULL_LIST.substring(0, 59) + "!"), g -> g.firstError(), 59);
        onlyTells("the first of sixty", text("!" + FULL_LIST.substring(1)), g -> g.firstError(), 0);
        for (int index = 0; index < 60; index++) {
            String wrong = FULL_LIST.substring(0, index) + "!" + FULL_LIST.substring(index + 1);
            answers("at " + index + " of sixty", text(wrong), g -> g.firstError(), index);
            answers("none in the first " + index, text(FULL_LIST.substring(0, index)), g -> g.firstError(), index);
        }
        answers("asked again", then(text("b0:1,4"), g -> g.firstError()), g -> g.firstError(), 5);
        answers("asked, then gone on", thenAll(then(text("b0:1"), g -> g.firstError()), text("0,3")),
            g -> g.firstError(), 7);
    }

    // ---- promise 12

    private static void load() {
        sentence("Promise 12, load", "Carries out the entries in the buffer one by one (\"b\" as by bury, \"r\" as by"
            + " reserve), up to the first one for which that would throw an exception (it and those behind it are not"
            + " carried out), and clears the buffer.");
        loaded("all of three", "b0:1,3;b0:1,2;b0:1,1", 3, 3, 0);
        loaded("the last one refused", "b0:1,3;b0:1,2;b0:1,2", 2, 2, 0);
        loaded("the second one refused", "b0:1,3;b0:1,3;b0:1,2", 1, 1, 0);
        loaded("the first one refused", "b0:0,3;b0:1,2;b0:1,1", 0, 0, 0);
        loaded("a refused reservation", "r0:1,50;r1:1,1;r0:2,1", 1, 0, 1);
        loaded("a reservation that holds a plot for the next entry", "r0:1,50;b0:1,3", 2, 1, 1);
        loaded("a reservation that keeps the next entry away", "r0:1,50;b1:1,3", 1, 0, 1);
        loaded("a burial that cuts the next entry off", "b0:1,3;b0:8,3;b0:9,3", 2, 2, 0);
        answers("5 less by the entry before it", then(text("r0:1,1;b0:1,1"), g -> g.load()), g -> g.family(0, 1), 27);
        answers("lengthened by the entry before it", then(text("r0:1,50;r0:1,50"), g -> g.load()), g -> g.plot(1, 6),
            100);
        Preparation years = g -> {
            g.pass(3);
            write(g, "r0:1,50;b2:39,3");
            g.load();
        };
        answers("from the present year on", years, g -> g.plot(1, 6), 53);
        answers("in the present year", years, g -> g.burial(39, 3, 1), 3);
        loadedAsByReserve();
        sentence("Promise 12, load", "Returns how many entries are carried out.");
        answers("none", text("r0:0,1"), g -> g.load(), 0);
        answers("one", text("r0:1,1"), g -> g.load(), 1);
        answers("eight", text(FULL_LIST), g -> g.load(), 8);
    }

    private static void loadedAsByReserve() {
        Call load = g -> g.load();
        answers("reserves rock", thenAll(g -> g.lay(20, ROCK), text("r0:20,1")), load, 1);
        answers("reserves no path", thenAll(g -> g.lay(20, PATH), text("r0:20,1")), load, 0);
        answers("reserves above its own burial", thenAll(g -> g.bury(0, 20, 1), text("r0:20,1")), load, 1);
        answers("reserves not above another's", thenAll(g -> g.bury(1, 20, 1), text("r0:20,1")), load, 0);
        answers("reserves above another's old one", thenAll(later(g -> g.bury(1, 20, 1), 30), text("r0:20,1")), load,
            1);
        answers("reserves no vault", thenAll(g -> g.buildVault(0, 20), text("r0:20,1")), load, 0);
        answers("reserves what is not reached", thenAll(SHUT, text("r0:20,1")), load, 1);
        answers("buries not where it is not reached", thenAll(SHUT, text("b0:20,1")), load, 0);
        answers("buries where another's reservation has lapsed", thenAll(later(g -> g.reserve(1, 20, 1), 2),
            text("b0:20,1")), load, 1);
        answers("buries not in its last year", thenAll(later(g -> g.reserve(1, 20, 1), 1), text("b0:20,1")), load, 0);
        Preparation vault = g -> {
            g.buildVault(0, 20);
            g.bury(0, 20, 3);
        };
        answers("a vault 1 year after", thenAll(later(vault, 1), text("b0:20,2")), load, 0);
        answers("a vault 2 years after, and twice", thenAll(later(vault, 2), text("b0:20,2;b0:20,1")), load, 1);
        answers("sand, too deep", thenAll(g -> g.lay(20, SAND), text("b0:20,3")), load, 0);
        answers("sand, as deep as can be", thenAll(g -> g.lay(20, SAND), text("b0:20,2")), load, 1);
    }

    private static void loaded(String what, String text, int done, int burials, int reservations) {
        Preparation before = text(text);
        Preparation after = then(before, g -> g.load());
        answers(what, before, g -> g.load(), done);
        answers(what + ": burials", after, g -> g.count(1), burials);
        answers(what + ": reservations", after, g -> g.count(5), reservations);
        answers(what + ": the buffer", after, g -> g.clearBuffer(), 0);
        answers(what + ": saved states", after, g -> g.count(8), 1);
        answers(what + ": undone", then(after, g -> g.undo()), g -> g.digest(), new BurialGround().digest());
    }

    private static void loadAsOneCall() {
        sentence("Promise 12, load", "Undoable, as one call, also if the first entry is refused.");
        Preparation six = g -> {
            for (int i = 0; i < 6; i++) {
                g.pass(1);
            }
        };
        Preparation full = thenAll(six, text("b0:1,3;b0:1,2;b0:1,1"));
        answers("with six saved states", full, g -> g.load(), 3);
        answers("six are left", then(full, g -> g.load()), g -> g.count(8), 6);
        answers("undone to the year before", then(then(full, g -> g.load()), g -> g.undo()), g -> g.count(1), 0);
        answers("undo of load keeps the years", then(then(full, g -> g.load()), g -> g.undo()), g -> g.count(0), 6);
        answers("undo twice", then(then(then(full, g -> g.load()), g -> g.undo()), g -> g.undo()), g -> g.count(0), 5);
        Preparation refused = thenAll(six, text("b0:0,3"));
        answers("first entry refused, with six saved states", refused, g -> g.load(), 0);
        answers("first entry refused: undo gives the same year", then(then(refused, g -> g.load()), g -> g.undo()),
            g -> g.count(0), 6);
        answers("first entry refused: the one before it", then(then(then(refused, g -> g.load()), g -> g.undo()),
            g -> g.undo()), g -> g.count(0), 5);
    }

    private static void loadRefused() {
        sentence("Promise 12, load", "Throws `IllegalArgumentException` if the buffer is not a complete list");
        String list = "b0:1,3;r9:39,50";
        for (int length = 0; length <= list.length(); length++) {
            String part = list.substring(0, length);
            if (length == 6 || length == 14 || length == 15) {
                answers("\"" + part + "\"", text(part), g -> g.load(), length == 6 ? 1 : 2);
            } else {
                refuses("\"" + part + "\"", text(part), g -> g.load(), ARGUMENT);
            }
        }
        refuses("an error behind a list", text("b0:1,3!"), g -> g.load(), ARGUMENT);
        refuses("an error in the second entry", text("b0:1,3;b0:1,4"), g -> g.load(), ARGUMENT);
        refuses("an error behind an entry that would be refused", text("b0:0,3;b"), g -> g.load(), ARGUMENT);
        refuses("sixty characters, not complete", text(SIXTY), g -> g.load(), ARGUMENT);
        answers("the buffer stays", g -> {
            write(g, "b0:1,");
            endingOf(g, x -> x.load());
            g.append('3');
        }, g -> g.load(), 1);
        refuses("loaded already", then(text("b0:1,3"), g -> g.load()), g -> g.load(), ARGUMENT);
    }

    // ---- promise 13

    private static void undo() {
        sentence("Promise 13, undo", "Restores the latest saved state, and drops it.");
        CallWith[] changes = {
            (g, plot) -> g.lay(plot, ROCK), (g, plot) -> g.pass(plot), (g, plot) -> g.setParish(plot / 10, false),
            (g, plot) -> g.bury(3, plot, 3), (g, plot) -> g.reserve(4, plot, 9), (g, plot) -> g.buildVault(5, plot),
            (g, plot) -> g.clear(plot),
        };
        for (int i = 0; i < changes.length; i++) {
            for (int j = 0; j < changes.length; j++) {
                int first = i;
                int second = j;
                Preparation one = g -> changes[first].on(g, 20);
                BurialGround both = ready(then(one, g -> changes[second].on(g, 30)));
                String what = "change " + i + ", then change " + j;
                check(what + ": undo", both.undo(), 1);
                sameGrounds(what + ": undone", both, ready(one));
            }
        }
        BurialGround again = ready(g -> {
            g.bury(3, 9, 3);
            g.undo();
        });
        check("a burial undone and made again", again.bury(3, 9, 3), 50);
        sameGrounds("made again", again, ready(then(NOTHING, g -> g.bury(3, 9, 3))));
        Preparation cleared = g -> {
            g.bury(0, 1, 3);
            g.bury(0, 8, 3);
            g.pass(30);
            g.clear(1);
            g.undo();
        };
        answers("ways, undone", cleared, g -> g.count(4), 37);
        answers("fees, undone", cleared, g -> g.burial(1, 3, 3), 50);
    }

    private static void undoRefused() {
        sentence("Promise 13, undo", "Returns how many saved states are left.");
        for (int calls = 1; calls <= 7; calls++) {
            int made = calls;
            Preparation ready = g -> {
                for (int i = 0; i < made; i++) {
                    g.setParish(i, false);
                }
            };
            answers("after " + calls, ready, g -> g.undo(), Math.min(calls, 6) - 1);
        }
        sentence("Promise 13, undo", "Throws `IllegalStateException` if there is none");
        refuses("new", NOTHING, g -> g.undo(), STATE);
        refuses("new, with a buffer", text("b0:1,3"), g -> g.undo(), STATE);
        refuses("after the only one", g -> {
            g.pass(1);
            g.undo();
        }, g -> g.undo(), STATE);
        refuses("after six of seven", g -> {
            for (int i = 0; i < 7; i++) {
                g.pass(1);
            }
            for (int i = 0; i < 6; i++) {
                g.undo();
            }
        }, g -> g.undo(), STATE);
        refuses("after a refused call alone", g -> endingOf(g, x -> x.pass(0)), g -> g.undo(), STATE);
    }

    public static void main(String[] args) {
        buffer();
        lettersAndFamilies();
        plotsInTexts();
        depthsInTexts();
        yearsInTexts();
        separators();
        syntaxErrors();
        append();
        clearBuffer();
        firstError();
        load();
        loadAsOneCall();
        loadRefused();
        undo();
        undoRefused();
        Checks.end();
    }
}
