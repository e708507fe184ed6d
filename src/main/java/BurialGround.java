/**
 * A burial ground and its ledger. The numbered promises of the project's document say what each call does;
 * this class keeps the face, the input text and the saved states, Ledger the ground itself.
 */
public final class BurialGround {
    public static final int NONE = -1;

    private static final int PLOTS = 40;
    private static final int FAMILIES = 10;
    private static final int DEPTHS = 3;
    private static final int LAST_YEAR = 2000;
    private static final int MOST_YEARS_TO_PASS = 100;
    private static final int MOST_YEARS_TO_RESERVE = 50;
    private static final int MOST_YEARS_AHEAD = 100;
    private static final int MOST_CHARACTERS = 60;
    private static final int MOST_SAVED = 6;

    private final Ledger now = new Ledger();
    private final Ledger[] saved = new Ledger[MOST_SAVED];
    private int savedCount = 0;
    private final int[] buffer = new int[MOST_CHARACTERS];
    private int length = 0;
    private final EntryReader reader = new EntryReader();

    public BurialGround() {
        for (int i = 0; i < MOST_SAVED; i++) {
            saved[i] = new Ledger();
        }
    }

    // ---- the ground

    public int lay(int plot, int kind)
            throws IndexOutOfBoundsException, IllegalArgumentException, IllegalStateException {
        needPlot(plot);
        if (plot == Ledger.GATE) {
            throw new IndexOutOfBoundsException("the gate stays a path");
        }
        if (kind < Ledger.CLAY || kind > Ledger.PATH) {
            throw new IllegalArgumentException("no such kind");
        }
        if (!now.mayChangeKind(plot)) {
            throw new IllegalStateException("the plot is in use");
        }
        save();
        return now.changeKind(plot, kind);
    }

    public int pass(int years) throws IllegalArgumentException, IllegalStateException {
        if (years < 1 || years > MOST_YEARS_TO_PASS) {
            throw new IllegalArgumentException("years out of range");
        }
        if (now.year + years > LAST_YEAR) {
            throw new IllegalStateException("the ledger ends before that year");
        }
        save();
        int before = now.lastingReservations();
        now.year += years;
        return before - now.lastingReservations();
    }

    public int setParish(int family, boolean parish) throws IndexOutOfBoundsException {
        needFamily(family);
        save();
        int previous = now.parish[family];
        now.parish[family] = parish ? 1 : 0;
        return previous;
    }

    // ---- burials, reservations, vaults

    public int bury(int family, int plot, int depth)
            throws IndexOutOfBoundsException, IllegalArgumentException, IllegalStateException {
        needFamily(family);
        needPlot(plot);
        needDepth(depth);
        if (now.refusal(family, plot, depth, now.year) != 0) {
            throw new IllegalStateException("the burial is refused");
        }
        save();
        return now.addBurial(family, plot, depth);
    }

    public int reserve(int family, int plot, int years)
            throws IndexOutOfBoundsException, IllegalArgumentException, IllegalStateException {
        needFamily(family);
        needPlot(plot);
        if (years < 1 || years > MOST_YEARS_TO_RESERVE) {
            throw new IllegalArgumentException("years out of range");
        }
        if (!now.mayReserve(family, plot)) {
            throw new IllegalStateException("the plot cannot be reserved");
        }
        save();
        return now.addReservation(family, plot, years);
    }

    public int buildVault(int family, int plot) throws IndexOutOfBoundsException, IllegalStateException {
        needFamily(family);
        needPlot(plot);
        if (!now.mayBuildVault(family, plot)) {
            throw new IllegalStateException("the plot cannot become a vault");
        }
        save();
        return now.addVault(family, plot);
    }

    public int clear(int plot) throws IndexOutOfBoundsException, IllegalStateException {
        needPlot(plot);
        if (now.restingBurials(plot) > 0) {
            throw new IllegalStateException("a burial is not old yet");
        }
        save();
        return now.removeBurials(plot);
    }

    // ---- texts

    public int append(int code) throws IllegalArgumentException, IllegalStateException {
        if (code < 33 || code > 126) {
            throw new IllegalArgumentException("no such character");
        }
        if (length >= MOST_CHARACTERS) {
            throw new IllegalStateException("the buffer is full");
        }
        buffer[length] = code;
        length++;
        return length;
    }

    public int clearBuffer() {
        int previous = length;
        length = 0;
        return previous;
    }

    public int firstError() {
        return errorIndex();
    }

    public int load() throws IllegalArgumentException {
        if (errorIndex() < length || !reader.isComplete()) {
            throw new IllegalArgumentException("the buffer is not a complete list");
        }
        save();
        int done = carryOutEntries();
        length = 0;
        return done;
    }

    public int undo() throws IllegalStateException {
        if (savedCount < 1) {
            throw new IllegalStateException("no state is saved");
        }
        savedCount--;
        now.copyFrom(saved[savedCount]);
        return savedCount;
    }

    // ---- what there is

    public int plot(int plot, int what) throws IndexOutOfBoundsException, IllegalArgumentException {
        needPlot(plot);
        needProperty(what, 8);
        return now.plotProperty(plot, what);
    }

    public int burial(int plot, int depth, int what) throws IndexOutOfBoundsException, IllegalArgumentException {
        needPlot(plot);
        if (!isDepth(depth)) {
            throw new IndexOutOfBoundsException("no such depth");
        }
        needProperty(what, 3);
        return now.burialProperty(plot, depth, what);
    }

    public int family(int family, int what) throws IndexOutOfBoundsException, IllegalArgumentException {
        needFamily(family);
        needProperty(what, 5);
        return now.familyProperty(family, what);
    }

    public int count(int what) throws IllegalArgumentException {
        needProperty(what, 8);
        return number(what);
    }

    // ---- what would be; nothing is changed

    public int why(int family, int plot, int depth) throws IndexOutOfBoundsException, IllegalArgumentException {
        needFamily(family);
        needPlot(plot);
        needDepth(depth);
        return now.refusal(family, plot, depth, now.year);
    }

    public int fee(int family, int plot, int depth) throws IndexOutOfBoundsException, IllegalArgumentException {
        needFamily(family);
        needPlot(plot);
        needDepth(depth);
        return now.burialFee(family, plot, depth);
    }

    public int deepest(int family, int plot) throws IndexOutOfBoundsException {
        needFamily(family);
        needPlot(plot);
        for (int depth = DEPTHS; depth >= 1; depth--) {
            if (now.refusal(family, plot, depth, now.year) == 0) {
                return depth;
            }
        }
        return NONE;
    }

    public int bestPlot(int family) throws IndexOutOfBoundsException {
        needFamily(family);
        return now.cheapestPlot(family);
    }

    public int yearFor(int family, int plot, int depth) throws IndexOutOfBoundsException, IllegalArgumentException {
        needFamily(family);
        needPlot(plot);
        needDepth(depth);
        for (int ahead = 0; ahead <= MOST_YEARS_AHEAD; ahead++) {
            if (now.refusal(family, plot, depth, now.year + ahead) == 0) {
                return now.year + ahead;
            }
        }
        return NONE;
    }

    public int clearYear(int plot) throws IndexOutOfBoundsException {
        needPlot(plot);
        return now.yearOfRest(plot);
    }

    public int cutsOff(int plot) throws IndexOutOfBoundsException {
        needPlot(plot);
        return now.lostWithout(plot);
    }

    public double meanFee() {
        return now.meanOfFees();
    }

    public long digest() {
        long hash = 2267;
        for (int what = 0; what <= 8; what++) {
            hash = 31 * hash + number(what);
        }
        for (int plot = 0; plot < PLOTS; plot++) {
            hash = plotDigest(hash, plot);
        }
        for (int family = 0; family < FAMILIES; family++) {
            hash = 31 * familyDigest(hash, family) + now.cheapestPlot(family);
        }
        hash = 31 * hash + bitsOf(now.meanOfFees());
        return bufferDigest(hash);
    }

    private long plotDigest(long start, int plot) {
        long hash = start;
        for (int what = 0; what <= 8; what++) {
            hash = 31 * hash + now.plotProperty(plot, what);
        }
        for (int depth = 1; depth <= DEPTHS; depth++) {
            for (int what = 0; what <= 3; what++) {
                hash = 31 * hash + now.burialProperty(plot, depth, what);
            }
        }
        return 31 * hash + now.yearOfRest(plot);
    }

    private long familyDigest(long start, int family) {
        long hash = start;
        for (int what = 0; what <= 5; what++) {
            hash = 31 * hash + now.familyProperty(family, what);
        }
        return hash;
    }

    private long bufferDigest(long start) {
        long hash = 31 * start + length;
        for (int i = 0; i < length && i < MOST_CHARACTERS; i++) {
            hash = 31 * hash + buffer[i];
        }
        return hash;
    }

    /**
     * What Double.doubleToLongBits answers for 0.0 and for numbers from 1.0 on; a mean fee is one of these.
     * LANGUAGE.md leaves no class Double, and halving and subtracting 1.0 lose no bit.
     */
    private static long bitsOf(double value) {
        if (value < 1.0) {
            return 0;
        }
        long exponent = 1023;
        double mantissa = value;
        for (int i = 0; i < 1023 && mantissa >= 2.0; i++) {
            mantissa = mantissa / 2.0;
            exponent++;
        }
        return (exponent << 52) | (long) ((mantissa - 1.0) * 4503599627370496.0);
    }

    private int number(int what) {
        return what == 8 ? savedCount : now.total(what);
    }

    private static void needPlot(int plot) throws IndexOutOfBoundsException {
        if (plot < 0 || plot >= PLOTS) {
            throw new IndexOutOfBoundsException("no such plot");
        }
    }

    private static void needFamily(int family) throws IndexOutOfBoundsException {
        if (family < 0 || family >= FAMILIES) {
            throw new IndexOutOfBoundsException("no such family");
        }
    }

    private static boolean isDepth(int depth) {
        return depth >= 1 && depth <= DEPTHS;
    }

    private static void needDepth(int depth) throws IllegalArgumentException {
        if (!isDepth(depth)) {
            throw new IllegalArgumentException("depth out of range");
        }
    }

    private static void needProperty(int what, int last) throws IllegalArgumentException {
        if (what < 0 || what > last) {
            throw new IllegalArgumentException("no such property");
        }
    }

    /** The saved ledgers are used again, the oldest one for the newest state, so that no call makes an object. */
    private void save() {
        if (savedCount >= MOST_SAVED) {
            dropOldest();
        }
        saved[savedCount].copyFrom(now);
        savedCount++;
    }

    private void dropOldest() {
        Ledger oldest = saved[0];
        for (int i = 1; i < MOST_SAVED; i++) {
            saved[i - 1] = saved[i];
        }
        saved[MOST_SAVED - 1] = oldest;
        savedCount = MOST_SAVED - 1;
    }

    /** Leaves the reader behind the last character that is no error. */
    private int errorIndex() {
        reader.startEntry();
        for (int i = 0; i < length && i < MOST_CHARACTERS; i++) {
            if (!reader.take(buffer[i])) {
                return i;
            }
        }
        return length;
    }

    /** Wants a buffer that is a complete list. */
    private int carryOutEntries() {
        int done = 0;
        reader.startEntry();
        for (int i = 0; i < length && i < MOST_CHARACTERS; i++) {
            reader.take(buffer[i]);
            if (i + 1 == length || buffer[i + 1] == ';') {
                if (!carryOutEntry()) {
                    return done;
                }
                done++;
            }
        }
        return done;
    }

    private boolean carryOutEntry() {
        if (reader.reserves) {
            if (!now.mayReserve(reader.family, reader.plot)) {
                return false;
            }
            now.addReservation(reader.family, reader.plot, reader.number);
            return true;
        }
        if (now.refusal(reader.family, reader.plot, reader.number, now.year) != 0) {
            return false;
        }
        now.addBurial(reader.family, reader.plot, reader.number);
        return true;
    }

    /** Reads a list character by character; holds the entry that it reads. */
    private static final class EntryReader {
        private static final int AT_LETTER = 0;
        private static final int AT_FAMILY = 1;
        private static final int AT_COLON = 2;
        private static final int AT_PLOT = 3;
        private static final int AT_NUMBER = 4;

        private int stage = AT_LETTER;
        boolean reserves = false;
        int family = 0;
        int plot = NONE;
        int number = 0;

        void startEntry() {
            stage = AT_LETTER;
            reserves = false;
            family = 0;
            plot = NONE;
            number = 0;
        }

        boolean isComplete() {
            return stage == AT_NUMBER && number > 0;
        }

        /** Answers false, and stays where it is, if no list goes on with this character. */
        boolean take(int code) {
            switch (stage) {
                case AT_LETTER:
                    return takeLetter(code);
                case AT_FAMILY:
                    return takeFamily(code);
                case AT_COLON:
                    return takeColon(code);
                case AT_PLOT:
                    return takeOfPlot(code);
                default:
                    return takeOfNumber(code);
            }
        }

        private boolean takeLetter(int code) {
            if (code != 'b' && code != 'r') {
                return false;
            }
            reserves = code == 'r';
            stage = AT_FAMILY;
            return true;
        }

        private boolean takeFamily(int code) {
            if (!isDigit(code)) {
                return false;
            }
            family = code - '0';
            stage = AT_COLON;
            return true;
        }

        private boolean takeColon(int code) {
            if (code != ':') {
                return false;
            }
            stage = AT_PLOT;
            return true;
        }

        private boolean takeOfPlot(int code) {
            if (code == ',' && plot != NONE) {
                stage = AT_NUMBER;
                return true;
            }
            // nothing but the comma follows a first 0: that would be a leading zero
            if (!isDigit(code) || plot == 0) {
                return false;
            }
            int longer = plot == NONE ? code - '0' : 10 * plot + code - '0';
            if (longer >= PLOTS) {
                return false;
            }
            plot = longer;
            return true;
        }

        private boolean takeOfNumber(int code) {
            if (code == ';' && number > 0) {
                startEntry();
                return true;
            }
            if (!isDigit(code)) {
                return false;
            }
            int longer = 10 * number + code - '0';
            if (longer < 1 || longer > (reserves ? MOST_YEARS_TO_RESERVE : DEPTHS)) {
                return false;
            }
            number = longer;
            return true;
        }

        private static boolean isDigit(int code) {
            return code >= '0' && code <= '9';
        }
    }

    /**
     * The ground at one time: what undo restores. Its methods want plots, families, depths and properties
     * that there are: the face looks at them first. Sets of plots are bits: bit p stands for plot p.
     */
    private static final class Ledger {
        static final int GATE = 0;
        static final int CLAY = 0;
        static final int ROCK = 2;
        static final int PATH = 3;

        private static final int[] GREATEST_DEPTH = {3, 2, 1, 0};
        private static final int[] YEARS_OF_REST = {30, 15, 60, 0};
        private static final int YEARS_BETWEEN_IN_VAULT = 2;
        private static final int ROW = 8;
        private static final long GATE_BIT = 1L;
        private static final long EVERY_PLOT = 0xFFFFFFFFFFL;
        private static final long FIRST_COLUMN = 0x0101010101L;
        private static final long LAST_COLUMN = 0x8080808080L;

        int year = 0;
        final int[] parish = new int[FAMILIES];
        private final int[] paid = new int[FAMILIES];
        private final int[] burialsSoFar = new int[FAMILIES];
        private final int[] kind = new int[PLOTS];
        private final int[] vaultOf = new int[PLOTS];
        private final int[] reservedFor = new int[PLOTS];
        private final int[] reservedUpTo = new int[PLOTS];
        // of each plot the places of depth 1, 2 and 3, one behind the other
        private final int[] buried = new int[PLOTS * DEPTHS];
        private final int[] buriedIn = new int[PLOTS * DEPTHS];
        private final int[] feePaid = new int[PLOTS * DEPTHS];
        // kept up to date, because every refusal asks for it
        private long reached = EVERY_PLOT;

        Ledger() {
            for (int family = 0; family < FAMILIES; family++) {
                parish[family] = 1;
            }
            for (int plot = 0; plot < PLOTS; plot++) {
                kind[plot] = CLAY;
                vaultOf[plot] = NONE;
                reservedFor[plot] = NONE;
                reservedUpTo[plot] = NONE;
            }
            for (int place = 0; place < PLOTS * DEPTHS; place++) {
                buried[place] = NONE;
                buriedIn[place] = NONE;
                feePaid[place] = NONE;
            }
            kind[GATE] = PATH;
        }

        void copyFrom(Ledger other) {
            year = other.year;
            System.arraycopy(other.parish, 0, parish, 0, FAMILIES);
            System.arraycopy(other.paid, 0, paid, 0, FAMILIES);
            System.arraycopy(other.burialsSoFar, 0, burialsSoFar, 0, FAMILIES);
            System.arraycopy(other.kind, 0, kind, 0, PLOTS);
            System.arraycopy(other.vaultOf, 0, vaultOf, 0, PLOTS);
            System.arraycopy(other.reservedFor, 0, reservedFor, 0, PLOTS);
            System.arraycopy(other.reservedUpTo, 0, reservedUpTo, 0, PLOTS);
            System.arraycopy(other.buried, 0, buried, 0, PLOTS * DEPTHS);
            System.arraycopy(other.buriedIn, 0, buriedIn, 0, PLOTS * DEPTHS);
            System.arraycopy(other.feePaid, 0, feePaid, 0, PLOTS * DEPTHS);
            reached = other.reached;
        }

        // ---- changes; what forbids them is asked before

        boolean mayChangeKind(int plot) {
            return burialsIn(plot) == 0 && vaultOf[plot] == NONE && reservedFor[plot] == NONE;
        }

        /** Leaves reached as it is: a plot without burials is open before and after. */
        int changeKind(int plot, int newKind) {
            int previous = kind[plot];
            kind[plot] = newKind;
            return previous;
        }

        int addBurial(int family, int plot, int depth) {
            int place = placeOf(plot, depth);
            int price = burialFee(family, plot, depth);
            buried[place] = family;
            buriedIn[place] = year;
            feePaid[place] = price;
            burialsSoFar[family]++;
            paid[family] += price;
            reached = reachedWithout(0L);
            return price;
        }

        int removeBurials(int plot) {
            int gone = burialsIn(plot);
            int first = plot * DEPTHS;
            for (int place = first; place < first + DEPTHS; place++) {
                buried[place] = NONE;
                buriedIn[place] = NONE;
                feePaid[place] = NONE;
            }
            reached = reachedWithout(0L);
            return gone;
        }

        boolean mayReserve(int family, int plot) {
            return kind[plot] != PATH && vaultOf[plot] == NONE && !isOther(holder(plot, year), family);
        }

        int addReservation(int family, int plot, int years) {
            int from = hasReservation(family, plot) ? reservedUpTo[plot] : year;
            reservedFor[plot] = family;
            reservedUpTo[plot] = from + years;
            return charge(family, 2 * years);
        }

        boolean mayBuildVault(int family, int plot) {
            return kind[plot] != PATH && kind[plot] != ROCK && vaultOf[plot] == NONE && burialsIn(plot) == 0
                && !isOther(holder(plot, year), family) && isReached(plot);
        }

        int addVault(int family, int plot) {
            vaultOf[plot] = family;
            reservedFor[plot] = NONE;
            reservedUpTo[plot] = NONE;
            return charge(family, 100);
        }

        private int charge(int family, int priceInParish) {
            int price = priceFor(family, priceInParish);
            paid[family] += price;
            return price;
        }

        // ---- plots

        private static int placeOf(int plot, int depth) {
            return plot * DEPTHS + depth - 1;
        }

        private int endOfRest(int place) {
            return buriedIn[place] + YEARS_OF_REST[kind[place / DEPTHS]];
        }

        private boolean isResting(int place, int atYear) {
            return buried[place] != NONE && atYear < endOfRest(place);
        }

        private int burialsIn(int plot) {
            int found = 0;
            int first = plot * DEPTHS;
            for (int place = first; place < first + DEPTHS; place++) {
                if (buried[place] != NONE) {
                    found++;
                }
            }
            return found;
        }

        int restingBurials(int plot) {
            int found = 0;
            int first = plot * DEPTHS;
            for (int place = first; place < first + DEPTHS; place++) {
                if (isResting(place, year)) {
                    found++;
                }
            }
            return found;
        }

        int yearOfRest(int plot) {
            int latest = year;
            int first = plot * DEPTHS;
            for (int place = first; place < first + DEPTHS; place++) {
                if (buried[place] != NONE) {
                    latest = Math.max(latest, endOfRest(place));
                }
            }
            return latest;
        }

        private boolean isReservedIn(int plot, int atYear) {
            return reservedFor[plot] != NONE && atYear <= reservedUpTo[plot];
        }

        private boolean hasReservation(int family, int plot) {
            return reservedFor[plot] == family && isReservedIn(plot, year);
        }

        private int holder(int plot, int atYear) {
            if (vaultOf[plot] != NONE) {
                return vaultOf[plot];
            }
            if (isReservedIn(plot, atYear)) {
                return reservedFor[plot];
            }
            int leastDeep = plot * DEPTHS;
            for (int place = leastDeep; place < leastDeep + DEPTHS; place++) {
                if (isResting(place, atYear)) {
                    return buried[place];
                }
            }
            return NONE;
        }

        private static boolean isOther(int holder, int family) {
            return holder != NONE && holder != family;
        }

        private int greatestDepth(int plot) {
            return vaultOf[plot] != NONE ? DEPTHS : GREATEST_DEPTH[kind[plot]];
        }

        // ---- ways

        private static long bitOf(int plot) {
            return 1L << plot;
        }

        private boolean isReached(int plot) {
            return (reached & bitOf(plot)) != 0;
        }

        private long openPlots() {
            long open = 0;
            for (int plot = 0; plot < PLOTS; plot++) {
                if (kind[plot] == PATH || burialsIn(plot) == 0) {
                    open |= bitOf(plot);
                }
            }
            return open;
        }

        private long soilPlots() {
            long soil = 0;
            for (int plot = 0; plot < PLOTS; plot++) {
                if (kind[plot] != PATH) {
                    soil |= bitOf(plot);
                }
            }
            return soil;
        }

        private static long neighboursOf(long plots) {
            long inColumn = (plots << ROW) | (plots >>> ROW);
            long inRow = ((plots & ~LAST_COLUMN) << 1) | ((plots & ~FIRST_COLUMN) >>> 1);
            return (inColumn | inRow) & EVERY_PLOT;
        }

        /**
         * The document's "without the plot itself" needs no search of its own for each plot: who comes to a
         * neighbour of a plot only through the plot has been at another neighbour of it before.
         */
        private long reachedWithout(long blocked) {
            long open = openPlots() & ~blocked;
            long come = GATE_BIT & open;
            for (int step = 0; step < PLOTS; step++) {
                come |= neighboursOf(come) & open;
            }
            return neighboursOf(come) | GATE_BIT;
        }

        int lostWithout(int plot) {
            long lost = reached & ~reachedWithout(bitOf(plot));
            return Long.bitCount(lost & soilPlots() & ~bitOf(plot));
        }

        // ---- burials that may be

        int refusal(int family, int plot, int depth, int atYear) {
            if (kind[plot] == PATH) {
                return 1;
            }
            if (isOther(holder(plot, atYear), family)) {
                return 2;
            }
            if (depth > greatestDepth(plot)) {
                return 3;
            }
            if (depth > freeDepth(plot)) {
                return 4;
            }
            if (!isReached(plot)) {
                return 5;
            }
            return vaultOf[plot] != NONE ? vaultRefusal(plot, depth, atYear) : 0;
        }

        private int vaultRefusal(int plot, int depth, int atYear) {
            if (burialsIn(plot) > 0 && atYear < latestBurial(plot) + YEARS_BETWEEN_IN_VAULT) {
                return 6;
            }
            return depth != Math.min(freeDepth(plot), greatestDepth(plot)) ? 7 : 0;
        }

        /** The greatest depth down to which no burial lies, whatever the soil; 0 if there is none. */
        private int freeDepth(int plot) {
            int first = plot * DEPTHS;
            int free = 0;
            while (free < DEPTHS && buried[first + free] == NONE) {
                free++;
            }
            return free;
        }

        private int latestBurial(int plot) {
            int latest = 0;
            int first = plot * DEPTHS;
            for (int place = first; place < first + DEPTHS; place++) {
                latest = Math.max(latest, buriedIn[place]);
            }
            return latest;
        }

        private int priceFor(int family, int priceInParish) {
            return parish[family] == 1 ? priceInParish : 2 * priceInParish;
        }

        int burialFee(int family, int plot, int depth) {
            int inParish = 10 * depth + 20 + (vaultOf[plot] != NONE ? 30 : 0);
            return priceFor(family, inParish) - (hasReservation(family, plot) ? 5 : 0);
        }

        private int leastFee(int family, int plot) {
            int least = NONE;
            for (int depth = 1; depth <= DEPTHS; depth++) {
                if (refusal(family, plot, depth, year) == 0) {
                    int price = burialFee(family, plot, depth);
                    least = least == NONE ? price : Math.min(least, price);
                }
            }
            return least;
        }

        int cheapestPlot(int family) {
            int best = NONE;
            int bestFee = 0;
            for (int plot = 0; plot < PLOTS; plot++) {
                int price = leastFee(family, plot);
                boolean better = best == NONE || price < bestFee
                    || price == bestFee && burialsIn(plot) < burialsIn(best);
                if (price != NONE && better) {
                    best = plot;
                    bestFee = price;
                }
            }
            return best;
        }

        // ---- properties

        int plotProperty(int plot, int what) {
            switch (what) {
                case 0:
                    return kind[plot];
                case 1:
                    return holder(plot, year);
                case 2:
                    return burialsIn(plot);
                case 3:
                    return restingBurials(plot);
                case 4:
                    return vaultOf[plot];
                case 5:
                    return reservedFor[plot];
                case 6:
                    return reservedUpTo[plot];
                case 7:
                    return isReached(plot) ? 1 : 0;
                default:
                    return greatestDepth(plot);
            }
        }

        int burialProperty(int plot, int depth, int what) {
            int place = placeOf(plot, depth);
            if (buried[place] == NONE) {
                return NONE;
            }
            switch (what) {
                case 0:
                    return buried[place];
                case 1:
                    return buriedIn[place];
                case 2:
                    return isResting(place, year) ? 0 : 1;
                default:
                    return feePaid[place];
            }
        }

        int familyProperty(int family, int what) {
            switch (what) {
                case 0:
                    return parish[family];
                case 1:
                    return paid[family];
                case 2:
                    return burialsSoFar[family];
                case 3:
                    return burialsOf(family);
                case 4:
                    return plotsHeldBy(family);
                default:
                    return vaultsOf(family);
            }
        }

        private int burialsOf(int family) {
            int found = 0;
            for (int place = 0; place < PLOTS * DEPTHS; place++) {
                if (buried[place] == family) {
                    found++;
                }
            }
            return found;
        }

        private int plotsHeldBy(int family) {
            int found = 0;
            for (int plot = 0; plot < PLOTS; plot++) {
                if (holder(plot, year) == family) {
                    found++;
                }
            }
            return found;
        }

        private int vaultsOf(int family) {
            int found = 0;
            for (int plot = 0; plot < PLOTS; plot++) {
                if (vaultOf[plot] == family) {
                    found++;
                }
            }
            return found;
        }

        // ---- totals

        int total(int what) {
            switch (what) {
                case 0:
                    return year;
                case 1:
                    return allBurials();
                case 2:
                    return allRestingBurials();
                case 3:
                    return Long.bitCount(soilPlots() & openPlots());
                case 4:
                    return Long.bitCount(soilPlots() & ~reached);
                case 5:
                    return lastingReservations();
                case 6:
                    return allVaults();
                default:
                    return allPaid();
            }
        }

        private int allBurials() {
            int found = 0;
            for (int plot = 0; plot < PLOTS; plot++) {
                found += burialsIn(plot);
            }
            return found;
        }

        private int allRestingBurials() {
            int found = 0;
            for (int plot = 0; plot < PLOTS; plot++) {
                found += restingBurials(plot);
            }
            return found;
        }

        int lastingReservations() {
            int found = 0;
            for (int plot = 0; plot < PLOTS; plot++) {
                if (isReservedIn(plot, year)) {
                    found++;
                }
            }
            return found;
        }

        private int allVaults() {
            int found = 0;
            for (int family = 0; family < FAMILIES; family++) {
                found += vaultsOf(family);
            }
            return found;
        }

        private int allPaid() {
            int sum = 0;
            for (int family = 0; family < FAMILIES; family++) {
                sum += paid[family];
            }
            return sum;
        }

        double meanOfFees() {
            int burials = allBurials();
            if (burials == 0) {
                return 0.0;
            }
            int sum = 0;
            for (int place = 0; place < PLOTS * DEPTHS; place++) {
                if (buried[place] != NONE) {
                    sum += feePaid[place];
                }
            }
            return (double) sum / burials;
        }
    }
}
