import java.util.ArrayList;
import java.util.HashSet;
import java.util.List;
import java.util.Set;
import java.util.regex.Matcher;
import java.util.regex.Pattern;

/**
 * The document once more, as literally as can be and without a thought for speed: every search is made anew for
 * every question. A call that throws here throws the exception that is due.
 */
final class Model {
    private static final class Burial {
        int depth;
        int family;
        int year;
        int fee;
    }

    private static final class Plot {
        int kind = 0;
        int vault = -1;
        int reservedFor = -1;
        int reservedUpTo = -1;
        List<Burial> burials = new ArrayList<>();
    }

    private static final class State {
        int year = 0;
        boolean[] parish = new boolean[10];
        int[] paid = new int[10];
        int[] burialsSoFar = new int[10];
        Plot[] plots = new Plot[40];
    }

    private static final String ENTRY = "(b[0-9]:(0|[1-9]|[1-3][0-9]),[1-3]|r[0-9]:(0|[1-9]|[1-3][0-9]),([1-9]|[1-4][0-9]|50))";
    private static final Pattern LIST = Pattern.compile(ENTRY + "(;" + ENTRY + ")*");

    private State s = new State();
    private final List<State> saved = new ArrayList<>();
    private String buffer = "";

    Model() {
        for (int i = 0; i < 10; i++) {
            s.parish[i] = true;
        }
        for (int i = 0; i < 40; i++) {
            s.plots[i] = new Plot();
        }
        s.plots[0].kind = 3;
    }

    private static State copy(State from) {
        State to = new State();
        to.year = from.year;
        to.parish = from.parish.clone();
        to.paid = from.paid.clone();
        to.burialsSoFar = from.burialsSoFar.clone();
        for (int i = 0; i < 40; i++) {
            Plot p = new Plot();
            Plot q = from.plots[i];
            p.kind = q.kind;
            p.vault = q.vault;
            p.reservedFor = q.reservedFor;
            p.reservedUpTo = q.reservedUpTo;
            p.burials.addAll(q.burials);
            to.plots[i] = p;
        }
        return to;
    }

    private void save() {
        saved.add(copy(s));
        if (saved.size() > 6) {
            saved.remove(0);
        }
    }

    private static void index(boolean fine) {
        if (!fine) {
            throw new IndexOutOfBoundsException();
        }
    }

    private static void argument(boolean fine) {
        if (!fine) {
            throw new IllegalArgumentException();
        }
    }

    private static void state(boolean fine) {
        if (!fine) {
            throw new IllegalStateException();
        }
    }

    private static boolean in(int value, int first, int last) {
        return value >= first && value <= last;
    }

    // ---- terms

    private static int rest(int kind) {
        return kind == 0 ? 30 : kind == 1 ? 15 : 60;
    }

    private static boolean neighbours(int a, int b) {
        int rows = Math.abs(a / 8 - b / 8);
        int places = Math.abs(a % 8 - b % 8);
        return rows + places == 1;
    }

    private boolean old(Plot p, Burial b, int year) {
        return year >= b.year + rest(p.kind);
    }

    private Burial at(int plot, int depth) {
        for (Burial b : s.plots[plot].burials) {
            if (b.depth == depth) {
                return b;
            }
        }
        return null;
    }

    private boolean reached(int plot, int closed) {
        if (plot == 0) {
            return true;
        }
        Set<Integer> come = new HashSet<>();
        if (closed != 0) {
            come.add(0);
        }
        boolean more = true;
        while (more) {
            more = false;
            for (int q = 0; q < 40; q++) {
                boolean open = q != closed && (s.plots[q].kind == 3 || s.plots[q].burials.isEmpty());
                if (q == plot || !open || come.contains(q)) {
                    continue;
                }
                for (int from : come) {
                    if (neighbours(from, q)) {
                        more = true;
                    }
                }
                if (more) {
                    come.add(q);
                    break;
                }
            }
        }
        for (int from : come) {
            if (neighbours(from, plot)) {
                return true;
            }
        }
        return false;
    }

    private boolean reserved(Plot p, int year) {
        return p.reservedFor >= 0 && !(year > p.reservedUpTo);
    }

    private int holder(int plot, int year) {
        Plot p = s.plots[plot];
        if (p.vault >= 0) {
            return p.vault;
        }
        if (reserved(p, year)) {
            return p.reservedFor;
        }
        Burial least = null;
        for (Burial b : p.burials) {
            if (!old(p, b, year) && (least == null || b.depth < least.depth)) {
                least = b;
            }
        }
        return least == null ? -1 : least.family;
    }

    private int greatest(Plot p) {
        if (p.kind == 3) {
            return 0;
        }
        return p.vault >= 0 || p.kind == 0 ? 3 : p.kind == 1 ? 2 : 1;
    }

    private boolean lies(int plot, int depth) {
        for (Burial b : s.plots[plot].burials) {
            if (b.depth <= depth) {
                return true;
            }
        }
        return false;
    }

    private int reason(int family, int plot, int depth, int year) {
        Plot p = s.plots[plot];
        int latest = -1;
        for (Burial b : p.burials) {
            latest = Math.max(latest, b.year);
        }
        int next = 0;
        for (int d = 1; d <= greatest(p); d++) {
            next = lies(plot, d) ? next : d;
        }
        int holder = holder(plot, year);
        boolean[] holds = {p.kind == 3, holder >= 0 && holder != family, depth > greatest(p), lies(plot, depth),
            !reached(plot, -1), p.vault >= 0 && latest >= 0 && year < latest + 2, p.vault >= 0 && depth != next};
        for (int i = 0; i < 7; i++) {
            if (holds[i]) {
                return i + 1;
            }
        }
        return 0;
    }

    private int price(int family, int plot, int depth) {
        Plot p = s.plots[plot];
        int fee = 10 * depth + 20;
        if (p.vault >= 0) {
            fee += 30;
        }
        if (!s.parish[family]) {
            fee *= 2;
        }
        if (p.reservedFor == family && s.year <= p.reservedUpTo) {
            fee -= 5;
        }
        return fee;
    }

    // ---- the face

    int lay(int plot, int kind) {
        index(in(plot, 1, 39));
        argument(in(kind, 0, 3));
        Plot p = s.plots[plot];
        state(p.burials.isEmpty() && p.vault < 0 && p.reservedFor < 0);
        save();
        int previous = p.kind;
        p.kind = kind;
        return previous;
    }

    int pass(int years) {
        argument(in(years, 1, 100));
        state(s.year + years <= 2000);
        save();
        int lapsed = 0;
        for (Plot p : s.plots) {
            if (reserved(p, s.year) && !reserved(p, s.year + years)) {
                lapsed++;
            }
        }
        s.year += years;
        return lapsed;
    }

    int setParish(int family, boolean parish) {
        index(in(family, 0, 9));
        save();
        int was = s.parish[family] ? 1 : 0;
        s.parish[family] = parish;
        return was;
    }

    private int doBury(int family, int plot, int depth) {
        Burial b = new Burial();
        b.fee = price(family, plot, depth);
        b.depth = depth;
        b.family = family;
        b.year = s.year;
        s.plots[plot].burials.add(b);
        s.paid[family] += b.fee;
        s.burialsSoFar[family]++;
        return b.fee;
    }

    int bury(int family, int plot, int depth) {
        state0(family, plot);
        argument(in(depth, 1, 3));
        state(reason(family, plot, depth, s.year) == 0);
        save();
        return doBury(family, plot, depth);
    }

    private static void state0(int family, int plot) {
        index(in(family, 0, 9) && in(plot, 0, 39));
    }

    private boolean mayReserve(int family, int plot) {
        int holder = holder(plot, s.year);
        return s.plots[plot].kind != 3 && s.plots[plot].vault < 0 && (holder < 0 || holder == family);
    }

    private int doReserve(int family, int plot, int years) {
        Plot p = s.plots[plot];
        if (p.reservedFor == family && s.year <= p.reservedUpTo) {
            p.reservedUpTo += years;
        } else {
            p.reservedFor = family;
            p.reservedUpTo = s.year + years;
        }
        int cost = s.parish[family] ? 2 * years : 4 * years;
        s.paid[family] += cost;
        return cost;
    }

    int reserve(int family, int plot, int years) {
        state0(family, plot);
        argument(in(years, 1, 50));
        state(mayReserve(family, plot));
        save();
        return doReserve(family, plot, years);
    }

    int buildVault(int family, int plot) {
        state0(family, plot);
        Plot p = s.plots[plot];
        int holder = holder(plot, s.year);
        state(p.kind < 2 && p.vault < 0 && p.burials.isEmpty() && (holder < 0 || holder == family) && reached(plot, -1));
        save();
        p.vault = family;
        p.reservedFor = -1;
        p.reservedUpTo = -1;
        int cost = s.parish[family] ? 100 : 200;
        s.paid[family] += cost;
        return cost;
    }

    int clear(int plot) {
        index(in(plot, 0, 39));
        Plot p = s.plots[plot];
        for (Burial b : p.burials) {
            state(old(p, b, s.year));
        }
        save();
        int gone = p.burials.size();
        p.burials.clear();
        return gone;
    }

    int append(int code) {
        argument(in(code, 33, 126));
        state(buffer.length() < 60);
        buffer += (char) code;
        return buffer.length();
    }

    int clearBuffer() {
        int length = buffer.length();
        buffer = "";
        return length;
    }

    int firstError() {
        for (int i = 1; i <= buffer.length(); i++) {
            Matcher m = LIST.matcher(buffer.substring(0, i));
            if (!m.matches() && !m.hitEnd()) {
                return i - 1;
            }
        }
        return buffer.length();
    }

    int load() {
        argument(LIST.matcher(buffer).matches());
        save();
        int done = 0;
        for (String entry : buffer.split(";")) {
            String[] parts = entry.substring(1).split("[:,]");
            int family = Integer.parseInt(parts[0]);
            int plot = Integer.parseInt(parts[1]);
            int number = Integer.parseInt(parts[2]);
            boolean bury = entry.charAt(0) == 'b';
            if (bury ? reason(family, plot, number, s.year) != 0 : !mayReserve(family, plot)) {
                break;
            }
            if (bury) {
                doBury(family, plot, number);
            } else {
                doReserve(family, plot, number);
            }
            done++;
        }
        buffer = "";
        return done;
    }

    int undo() {
        state(!saved.isEmpty());
        s = saved.remove(saved.size() - 1);
        return saved.size();
    }

    int plot(int plot, int what) {
        index(in(plot, 0, 39));
        argument(in(what, 0, 8));
        Plot p = s.plots[plot];
        int resting = 0;
        for (Burial b : p.burials) {
            resting += old(p, b, s.year) ? 0 : 1;
        }
        int[] answers = {p.kind, holder(plot, s.year), p.burials.size(), resting, p.vault, p.reservedFor, p.reservedUpTo,
            reached(plot, -1) ? 1 : 0, greatest(p)};
        return answers[what];
    }

    int burial(int plot, int depth, int what) {
        index(in(plot, 0, 39) && in(depth, 1, 3));
        argument(in(what, 0, 3));
        Burial b = at(plot, depth);
        if (b == null) {
            return -1;
        }
        return new int[] {b.family, b.year, old(s.plots[plot], b, s.year) ? 1 : 0, b.fee}[what];
    }

    int family(int family, int what) {
        index(in(family, 0, 9));
        argument(in(what, 0, 5));
        int[] answers = {s.parish[family] ? 1 : 0, s.paid[family], s.burialsSoFar[family], 0, 0, 0};
        for (int i = 0; i < 40; i++) {
            for (Burial b : s.plots[i].burials) {
                answers[3] += b.family == family ? 1 : 0;
            }
            answers[4] += holder(i, s.year) == family ? 1 : 0;
            answers[5] += s.plots[i].vault == family ? 1 : 0;
        }
        return answers[what];
    }

    int count(int what) {
        argument(in(what, 0, 8));
        int[] answers = {s.year, 0, 0, 0, 0, 0, 0, 0, saved.size()};
        for (int i = 0; i < 40; i++) {
            Plot p = s.plots[i];
            for (Burial b : p.burials) {
                answers[1]++;
                answers[2] += old(p, b, s.year) ? 0 : 1;
            }
            answers[3] += p.kind != 3 && p.burials.isEmpty() ? 1 : 0;
            answers[4] += what == 4 && p.kind != 3 && !reached(i, -1) ? 1 : 0;
            answers[5] += reserved(p, s.year) ? 1 : 0;
            answers[6] += p.vault >= 0 ? 1 : 0;
        }
        for (int paid : s.paid) {
            answers[7] += paid;
        }
        return answers[what];
    }

    int why(int family, int plot, int depth) {
        state0(family, plot);
        argument(in(depth, 1, 3));
        return reason(family, plot, depth, s.year);
    }

    int fee(int family, int plot, int depth) {
        state0(family, plot);
        argument(in(depth, 1, 3));
        return price(family, plot, depth);
    }

    int deepest(int family, int plot) {
        state0(family, plot);
        int found = -1;
        for (int depth = 1; depth <= 3; depth++) {
            found = reason(family, plot, depth, s.year) == 0 ? depth : found;
        }
        return found;
    }

    int bestPlot(int family) {
        index(in(family, 0, 9));
        long best = Long.MAX_VALUE;
        for (int plot = 0; plot < 40; plot++) {
            for (int depth = 1; depth <= 3; depth++) {
                if (reason(family, plot, depth, s.year) == 0) {
                    best = Math.min(best, 1000L * price(family, plot, depth) + 100 * s.plots[plot].burials.size() + plot);
                }
            }
        }
        return best == Long.MAX_VALUE ? -1 : (int) (best % 100);
    }

    int yearFor(int family, int plot, int depth) {
        state0(family, plot);
        argument(in(depth, 1, 3));
        for (int year = s.year; year <= s.year + 100; year++) {
            if (reason(family, plot, depth, year) == 0) {
                return year;
            }
        }
        return -1;
    }

    int clearYear(int plot) {
        index(in(plot, 0, 39));
        for (int year = s.year;; year++) {
            boolean may = true;
            for (Burial b : s.plots[plot].burials) {
                may &= old(s.plots[plot], b, year);
            }
            if (may) {
                return year;
            }
        }
    }

    int cutsOff(int plot) {
        index(in(plot, 0, 39));
        int lost = 0;
        for (int q = 0; q < 40; q++) {
            if (q != plot && s.plots[q].kind != 3 && reached(q, -1) && !reached(q, plot)) {
                lost++;
            }
        }
        return lost;
    }

    double meanFee() {
        double sum = 0;
        int number = 0;
        for (Plot p : s.plots) {
            for (Burial b : p.burials) {
                sum += b.fee;
                number++;
            }
        }
        return number == 0 ? 0.0 : sum / number;
    }

    String text() {
        return buffer;
    }
}
