import java.util.NoSuchElementException;

/**
 * Rowers judged by races of crews: strengths and the stream's drift by the least sum of squares,
 * exactly, as far as the races tell them; doubts, ranks, and which race is to be rowed next.
 */
public final class SeatRacing {
    public static final int NONE = -1;
    public static final long NO_NUMBER = -1000000000000000000L;

    private static final int TWELVE_ALREADY = -2;
    private static final int MOST_ROWERS = 6;
    private static final int MOST_RACES = 12;
    private static final int MOST_IN_CREW = 3;
    private static final int MOST_MARGIN = 999;
    private static final int MOST_LIMIT = 99;
    private static final int FIRST_LIMIT = 10;
    private static final int MOST_BYTES = 300;
    private static final int FED_BYTES = 20;
    /** Six rowers make 45 matches of size 2; no other number or size makes more. */
    private static final int MOST_MATCHES = 45;

    private final Log log = new Log();
    private final Teller teller = new Teller();
    private final Fit fit = new Fit();
    private final Fit trial = new Fit();
    private final Fraction told = new Fraction();
    private final Fraction candidate = new Fraction();
    private final Fraction least = new Fraction();
    private final Choice choice = new Choice();
    private final int[] matchA = new int[MOST_MATCHES];
    private final int[] matchB = new int[MOST_MATCHES];
    private int latestFault = 0;
    private int faultStatement = NONE;

    public SeatRacing() {
    }

    // ---- what is told

    public int feed(int a, int b, int c, int d, int e) {
        Reader tape = teller.reader;
        if (tape.length > MOST_BYTES - FED_BYTES) {
            return NONE;
        }
        tape.append(a);
        tape.append(b);
        tape.append(c);
        tape.append(d);
        tape.append(e);
        return tape.length;
    }

    public boolean end(int n) {
        if (n < 0 || n > teller.reader.length) {
            return false;
        }
        teller.reader.length = n;
        return true;
    }

    public int tell() {
        // Told to a draft, so that a fault leaves the log as it was.
        teller.draft.copyFrom(log);
        boolean good = teller.readAll();
        teller.reader.length = 0;
        latestFault = teller.flaw;
        if (!good) {
            faultStatement = teller.statements;
            return NONE;
        }
        faultStatement = NONE;
        log.copyFrom(teller.draft);
        judge();
        return teller.statements;
    }

    public int fault(int what) {
        if (what == 0) {
            return latestFault;
        }
        return what == 1 ? faultStatement : NONE;
    }

    public boolean crew(int n) {
        if (!Log.isRowerCount(n)) {
            return false;
        }
        log.begin(n);
        judge();
        return true;
    }

    public boolean limit(int v) {
        if (!Log.isBound(v) || v == log.bound) {
            return false;
        }
        log.bound = v;
        return true;
    }

    public int race(int a, int b, int margin, int stream) {
        if (!log.canRow(a, b, stream) || margin < -MOST_MARGIN || margin > MOST_MARGIN) {
            return NONE;
        }
        if (log.isFull()) {
            return TWELVE_ALREADY;
        }
        log.append(a, b, margin, stream);
        judge();
        return log.races - 1;
    }

    public int strike(int race) {
        if (!log.hasRace(race)) {
            return NONE;
        }
        log.remove(race);
        judge();
        return log.races;
    }

    public int count(int what) {
        switch (what) {
            case 0:
                return log.rowers;
            case 1:
                return log.races;
            case 2:
                return log.bound;
            case 3:
                return teller.reader.length;
            case 4:
                return fit.couplesKnown(log.rowers);
            case 5:
                return countGroups();
            case 6:
                return fit.independent;
            default:
                return NONE;
        }
    }

    public int raced(int race, int what) throws NoSuchElementException {
        if (!log.hasRace(race)) {
            throw new NoSuchElementException("no such race");
        }
        switch (what) {
            case 0:
                return log.crewA[race];
            case 1:
                return log.crewB[race];
            case 2:
                return log.margin[race];
            case 3:
                return log.stream[race];
            default:
                throw new NoSuchElementException("a race has no such number");
        }
    }

    // ---- what the races tell

    public long difference(int i, int j, boolean under) {
        if (!log.hasRower(i) || !log.hasRower(j)) {
            return NO_NUMBER;
        }
        return tellForm(1 << i, 1 << j, 0, false, under);
    }

    public long doubt(int i, int j, boolean under) {
        if (!log.hasRower(i) || !log.hasRower(j)) {
            return NO_NUMBER;
        }
        return tellForm(1 << i, 1 << j, 0, true, under);
    }

    public long drift(boolean under) {
        return tellForm(0, 0, 1, false, under);
    }

    public long rest(int race, boolean under) {
        if (!log.hasRace(race)) {
            return NO_NUMBER;
        }
        return tellFraction(scaledRest(race), fit.scale, under);
    }

    public long sum(boolean under) {
        return tellFraction(fit.scaledSum(), fit.scale, under);
    }

    public long guess(int a, int b, int stream, boolean doubts, boolean under) {
        if (!log.canRow(a, b, stream)) {
            return NO_NUMBER;
        }
        return tellForm(a, b, stream, doubts, under);
    }

    public int rank(int rower, int what) {
        if (!log.hasRower(rower)) {
            return NONE;
        }
        switch (what) {
            case 0:
                return Integer.bitCount(thoseAheadOf(rower, 0));
            case 1:
                return Integer.bitCount(thoseAheadOf(rower, log.bound));
            case 2:
                return countSurelyBehind(rower);
            case 3:
                return groupOf(rower);
            default:
                return NONE;
        }
    }

    // ---- what is looked for

    public long suit(int i, int j, boolean under) {
        if (!areTwo(i, j)) {
            return NO_NUMBER;
        }
        int both = 1 << i | 1 << j;
        long upper = 0;
        for (int race = 0; race < log.races; race++) {
            if ((log.crewA[race] & both) == both) {
                upper += scaledRest(race);
            } else if ((log.crewB[race] & both) == both) {
                upper -= scaledRest(race);
            }
        }
        return tellFraction(upper, fit.scale, under);
    }

    public long swaps(int i, int j, int what) {
        if (!areTwo(i, j) || what < 0 || what > 2) {
            return NO_NUMBER;
        }
        int found = 0;
        int ahead = 0;
        for (int with = 0; with < log.races; with++) {
            for (int other = 0; other < log.races; other++) {
                if (log.isSwap(with, other, i, j)) {
                    found++;
                    ahead += log.margin[with] - log.margin[other];
                }
            }
        }
        if (what == 0) {
            return found;
        }
        return found == 0 ? NO_NUMBER : tellFraction(ahead, 2L * found, what == 2);
    }

    public long next(int k, int what) {
        if (what < 0 || what > 4 || !chooseNext(k)) {
            return NONE;
        }
        switch (what) {
            case 0:
                return choice.a;
            case 1:
                return choice.b;
            case 2:
                return choice.known;
            case 3:
                return choice.doubts.upper;
            default:
                return choice.doubts.lower;
        }
    }

    public int fewest(int k) {
        if (k < 1 || k > MOST_IN_CREW) {
            return NONE;
        }
        // Matches each not known by what stands before them: any such row that can't be made
        // longer is as long as any other, so the first one found has the least number.
        trial.copyForms(fit);
        trial.solve();
        int matches = listMatches(k);
        int added = 0;
        for (int m = 0; m < matches; m++) {
            trial.load(matchA[m], matchB[m], 0, 0);
            if (!trial.isKnown()) {
                trial.include(1);
                trial.solve();
                added++;
            }
        }
        int couples = log.rowers * (log.rowers - 1) / 2;
        return trial.couplesKnown(log.rowers) == couples ? added : NONE;
    }

    public long odd(int what) {
        if (what < 0 || what > 2 || log.races == 0) {
            return NONE;
        }
        int found = 0;
        for (int race = 0; race < log.races; race++) {
            trial.copyForms(fit);
            trial.copyMargins(fit);
            trial.load(log.crewA[race], log.crewB[race], log.stream[race], log.margin[race]);
            trial.include(-1);
            trial.solve();
            candidate.set(trial.scaledSum(), trial.scale);
            if (race == 0 || candidate.isBelow(least)) {
                found = race;
                least.copyFrom(candidate);
            }
        }
        if (what == 0) {
            return found;
        }
        return what == 1 ? least.upper : least.lower;
    }

    public int even(int k, int what) {
        if (what < 0 || what > 1 || !chooseEven(k)) {
            return NONE;
        }
        return what == 0 ? choice.a : choice.b;
    }

    // ---- helpers

    /** Makes the fit anew from all races of the log. */
    private void judge() {
        fit.clear();
        for (int race = 0; race < log.races; race++) {
            fit.load(log.crewA[race], log.crewB[race], log.stream[race], log.margin[race]);
            fit.include(1);
        }
        fit.solve();
    }

    private boolean areTwo(int i, int j) {
        return log.hasRower(i) && log.hasRower(j) && i != j;
    }

    private long tellFraction(long upper, long lower, boolean under) {
        told.set(upper, lower);
        return under ? told.lower : told.upper;
    }

    private long tellForm(int a, int b, int stream, boolean doubts, boolean under) {
        fit.load(a, b, stream, 0);
        if (!fit.isKnown()) {
            return NO_NUMBER;
        }
        return tellFraction(doubts ? fit.scaledDoubt() : fit.scaledValue(), fit.scale, under);
    }

    private long scaledRest(int race) {
        fit.load(log.crewA[race], log.crewB[race], log.stream[race], 0);
        return log.margin[race] * fit.scale - fit.scaledValue();
    }

    private int groupOf(int rower) {
        int group = 0;
        for (int other = 0; other < log.rowers; other++) {
            fit.load(1 << rower, 1 << other, 0, 0);
            if (fit.isKnown()) {
                group |= 1 << other;
            }
        }
        return group;
    }

    /** Each group is counted at its least rower. */
    private int countGroups() {
        int groups = 0;
        for (int rower = 0; rower < log.rowers; rower++) {
            int below = (1 << rower) - 1;
            if ((groupOf(rower) & below) == 0) {
                groups++;
            }
        }
        return groups;
    }

    /** Is i ahead of j by more than so many times the doubt? With times 0: ahead at all. */
    private boolean isAhead(int i, int j, int times) {
        fit.load(1 << i, 1 << j, 0, 0);
        return fit.isKnown() && fit.scaledValue() > times * fit.scaledDoubt();
    }

    private int thoseAheadOf(int rower, int times) {
        int ahead = 0;
        for (int other = 0; other < log.rowers; other++) {
            if (isAhead(other, rower, times)) {
                ahead |= 1 << other;
            }
        }
        return ahead;
    }

    private int countSurelyBehind(int rower) {
        int behind = 0;
        for (int other = 0; other < log.rowers; other++) {
            if (isAhead(rower, other, log.bound)) {
                behind++;
            }
        }
        return behind;
    }

    /** Fills matchA and matchB with the matches of size k, the least A first, then the least B. */
    private int listMatches(int k) {
        int all = 1 << log.rowers;
        int found = 0;
        for (int a = 1; a < all; a++) {
            if (Integer.bitCount(a) != k) {
                continue;
            }
            for (int b = 1; b < all && found < MOST_MATCHES; b++) {
                if (isMatch(a, b)) {
                    matchA[found] = a;
                    matchB[found] = b;
                    found++;
                }
            }
        }
        return found;
    }

    private boolean isMatch(int a, int b) {
        return log.canRow(a, b, 0) && (a & -a) < (b & -b);
    }

    private boolean chooseNext(int k) {
        choice.known = NONE;
        int matches = listMatches(k);
        for (int m = 0; m < matches; m++) {
            trial.copyForms(fit);
            trial.load(matchA[m], matchB[m], 0, 0);
            trial.include(1);
            trial.solve();
            int known = trial.couplesKnown(log.rowers);
            if (known < choice.known) {
                continue;
            }
            candidate.set(trial.scaledDoubts(log.rowers), trial.scale);
            if (known > choice.known || candidate.isBelow(choice.doubts)) {
                choice.a = matchA[m];
                choice.b = matchB[m];
                choice.known = known;
                choice.doubts.copyFrom(candidate);
            }
        }
        return matches > 0;
    }

    private boolean chooseEven(int k) {
        boolean found = false;
        long leastSize = 0;
        int matches = listMatches(k);
        for (int m = 0; m < matches; m++) {
            fit.load(matchA[m], matchB[m], 0, 0);
            if (!fit.isKnown()) {
                continue;
            }
            long size = Math.abs(fit.scaledValue());
            if (!found || size < leastSize) {
                found = true;
                leastSize = size;
                choice.a = matchA[m];
                choice.b = matchB[m];
            }
        }
        return found;
    }

    /** The match that was chosen, and what it would bring. */
    private static final class Choice {
        int a = 0;
        int b = 0;
        int known = NONE;
        final Fraction doubts = new Fraction();
    }

    /** A fraction in least terms, its lower number above 0. */
    private static final class Fraction {
        /** Two longs need fewer steps than this for their greatest common divisor. */
        private static final int MOST_STEPS = 100;

        long upper = 0;
        long lower = 1;

        void set(long newUpper, long newLower) {
            long divisor = commonDivisor(Math.abs(newUpper), newLower);
            if (newLower <= 0 || divisor <= 0) {
                upper = 0;
                lower = 1;
                return;
            }
            upper = newUpper / divisor;
            lower = newLower / divisor;
        }

        void copyFrom(Fraction other) {
            upper = other.upper;
            lower = other.lower;
        }

        /** Of two fractions that are not below 0; whole parts first, so that no product grows too large. */
        boolean isBelow(Fraction other) {
            if (lower <= 0 || other.lower <= 0) {
                return false;
            }
            long whole = upper / lower;
            long otherWhole = other.upper / other.lower;
            if (whole != otherWhole) {
                return whole < otherWhole;
            }
            long left = upper - whole * lower;
            long otherLeft = other.upper - otherWhole * other.lower;
            return left * other.lower < otherLeft * lower;
        }

        private static long commonDivisor(long first, long second) {
            long larger = first;
            long smaller = second;
            for (int step = 0; step < MOST_STEPS && smaller != 0; step++) {
                long left = larger % smaller;
                larger = smaller;
                smaller = left;
            }
            return larger;
        }
    }

    /** The rowers, the limit and the races. */
    private static final class Log {
        int rowers = 0;
        int bound = FIRST_LIMIT;
        int races = 0;
        final int[] crewA = new int[MOST_RACES];
        final int[] crewB = new int[MOST_RACES];
        final int[] margin = new int[MOST_RACES];
        final int[] stream = new int[MOST_RACES];

        static boolean isRowerCount(int n) {
            return n >= 0 && n <= MOST_ROWERS;
        }

        static boolean isBound(int v) {
            return v >= 1 && v <= MOST_LIMIT;
        }

        void begin(int n) {
            rowers = n;
            races = 0;
        }

        void copyFrom(Log other) {
            rowers = other.rowers;
            bound = other.bound;
            races = other.races;
            for (int race = 0; race < races; race++) {
                crewA[race] = other.crewA[race];
                crewB[race] = other.crewB[race];
                margin[race] = other.margin[race];
                stream[race] = other.stream[race];
            }
        }

        boolean hasRower(int rower) {
            return rower >= 0 && rower < rowers;
        }

        boolean hasRace(int race) {
            return race >= 0 && race < races;
        }

        boolean isFull() {
            return races >= MOST_RACES;
        }

        boolean canRow(int a, int b, int withStream) {
            int all = (1 << rowers) - 1;
            int size = Integer.bitCount(a);
            return ((a | b) & ~all) == 0 && (a & b) == 0
                && size == Integer.bitCount(b) && size >= 1 && size <= MOST_IN_CREW
                && withStream >= -1 && withStream <= 1;
        }

        void append(int a, int b, int newMargin, int newStream) {
            if (isFull()) {
                return;
            }
            crewA[races] = a;
            crewB[races] = b;
            margin[races] = newMargin;
            stream[races] = newStream;
            races++;
        }

        void remove(int gone) {
            if (!hasRace(gone)) {
                return;
            }
            races--;
            for (int race = gone; race < races; race++) {
                crewA[race] = crewA[race + 1];
                crewB[race] = crewB[race + 1];
                margin[race] = margin[race + 1];
                stream[race] = stream[race + 1];
            }
        }

        /** Has the one race i in A and j in B, and is the other the same but for these two? */
        boolean isSwap(int with, int other, int i, int j) {
            int two = 1 << i | 1 << j;
            return stream[with] == stream[other]
                && (crewA[with] & two) == 1 << i && (crewB[with] & two) == 1 << j
                && crewA[other] == (crewA[with] ^ two) && crewB[other] == (crewB[with] ^ two);
        }
    }

    /**
     * The least sum of squares, in whole numbers. The columns are the rowers, the drift and the
     * margin; gram holds the sums of products of any two columns over all races. solve() makes
     * table of it by sweeping each column that does not depend on those swept before it. All its
     * numbers are then scale times the true ones, scale being the determinant of the swept part
     * of gram, and they say, for two columns:
     *   swept and swept: the inverse of gram's swept part, times -1;
     *   swept and not swept: how the one not swept depends on the swept ones;
     *   swept and margin: the unknown, if those not swept are 0;
     *   margin and margin: the sum of squares that is left.
     * No product leaves a long: forms of rowers add up to 0, so that with 12 races scale is below
     * 104,000 ahead of its last sweep and below 1,300,000 behind it, and the sum of squares is
     * below 12,000,000. Races that are only thought of are put in without margins.
     */
    private static final class Fit {
        private static final int DRIFT = MOST_ROWERS;
        private static final int UNKNOWNS = MOST_ROWERS + 1;
        private static final int MARGIN = UNKNOWNS;
        private static final int COLUMNS = UNKNOWNS + 1;

        long scale = 1;
        int independent = 0;
        private final long[][] gram = new long[COLUMNS][COLUMNS];
        private final long[][] table = new long[COLUMNS][COLUMNS];
        private final boolean[] swept = new boolean[UNKNOWNS];
        /** The form at hand, and its margin. */
        private final int[] form = new int[COLUMNS];

        void clear() {
            for (int i = 0; i < COLUMNS; i++) {
                for (int j = 0; j < COLUMNS; j++) {
                    gram[i][j] = 0;
                }
            }
        }

        /** Takes what the races of another are, with margins of 0. */
        void copyForms(Fit other) {
            clear();
            for (int i = 0; i < UNKNOWNS; i++) {
                for (int j = 0; j < UNKNOWNS; j++) {
                    gram[i][j] = other.gram[i][j];
                }
            }
        }

        void copyMargins(Fit other) {
            for (int i = 0; i < COLUMNS; i++) {
                gram[i][MARGIN] = other.gram[i][MARGIN];
                gram[MARGIN][i] = other.gram[MARGIN][i];
            }
        }

        /** Puts a form at hand; a rower in both crews counts 0. */
        void load(int a, int b, int stream, int margin) {
            for (int rower = 0; rower < MOST_ROWERS; rower++) {
                form[rower] = (a >> rower & 1) - (b >> rower & 1);
            }
            form[DRIFT] = stream;
            form[MARGIN] = margin;
        }

        /** The form at hand becomes a race (times 1) or is one no more (times -1). */
        void include(int times) {
            for (int i = 0; i < COLUMNS; i++) {
                for (int j = 0; j < COLUMNS; j++) {
                    gram[i][j] += (long) times * form[i] * form[j];
                }
            }
        }

        void solve() {
            for (int i = 0; i < COLUMNS; i++) {
                for (int j = 0; j < COLUMNS; j++) {
                    table[i][j] = gram[i][j];
                }
            }
            scale = 1;
            independent = 0;
            for (int column = 0; column < UNKNOWNS; column++) {
                // Sums of squares make the diagonal 0 just where a column depends on swept ones.
                swept[column] = table[column][column] > 0;
                if (swept[column]) {
                    sweep(column);
                    independent++;
                }
            }
        }

        /** The division is exact: each number of the table is a determinant of parts of gram. */
        private void sweep(int pivot) {
            if (scale <= 0) {
                return;
            }
            long top = table[pivot][pivot];
            for (int i = 0; i < COLUMNS; i++) {
                for (int j = 0; j < COLUMNS; j++) {
                    if (i != pivot && j != pivot) {
                        long product = table[i][pivot] * table[pivot][j];
                        table[i][j] = (top * table[i][j] - product) / scale;
                    }
                }
            }
            table[pivot][pivot] = -scale;
            scale = top;
        }

        /** Is the form at hand a sum of races, each times a weight? */
        boolean isKnown() {
            for (int column = 0; column < UNKNOWNS; column++) {
                if (!swept[column] && sweptTimes(column) != scale * form[column]) {
                    return false;
                }
            }
            return true;
        }

        /** The value of the form at hand, if it is known, times scale. */
        long scaledValue() {
            return sweptTimes(MARGIN);
        }

        /** The doubt of the form at hand, if it is known, times scale. */
        long scaledDoubt() {
            long doubt = 0;
            for (int column = 0; column < UNKNOWNS; column++) {
                if (swept[column] && form[column] != 0) {
                    doubt -= form[column] * sweptTimes(column);
                }
            }
            return doubt;
        }

        long scaledSum() {
            return table[MARGIN][MARGIN];
        }

        private long sweptTimes(int column) {
            long total = 0;
            for (int i = 0; i < UNKNOWNS; i++) {
                if (swept[i]) {
                    total += form[i] * table[i][column];
                }
            }
            return total;
        }

        int couplesKnown(int rowers) {
            int known = 0;
            for (int i = 0; i < rowers; i++) {
                for (int j = i + 1; j < rowers; j++) {
                    load(1 << i, 1 << j, 0, 0);
                    if (isKnown()) {
                        known++;
                    }
                }
            }
            return known;
        }

        /** The doubts of all couples whose difference is known, together, times scale. */
        long scaledDoubts(int rowers) {
            long doubts = 0;
            for (int i = 0; i < rowers; i++) {
                for (int j = i + 1; j < rowers; j++) {
                    load(1 << i, 1 << j, 0, 0);
                    if (isKnown()) {
                        doubts += scaledDoubt();
                    }
                }
            }
            return doubts;
        }
    }

    /** The tape, and its tokens one after another. */
    private static final class Reader {
        static final int AT_END = 0;
        static final int NUMBER = 1;
        static final int SEMICOLON = 2;
        static final int COLON = 3;
        static final int CREW = 4;
        static final int LIMIT = 5;
        static final int RACE = 6;
        static final int BY = 7;
        static final int UP = 8;
        static final int DOWN = 9;
        static final int STRANGE = 10;

        private static final int MOST_DIGITS = 3;

        int length = 0;
        /** The token at hand: its kind, its first byte's place and, of a NUMBER, its value. */
        int kind = AT_END;
        int place = 0;
        int value = 0;
        private int behind = 0;
        private final byte[] bytes = new byte[MOST_BYTES];

        void append(int four) {
            for (int shift = 24; shift >= 0 && length < MOST_BYTES; shift -= 8) {
                bytes[length] = (byte) (four >> shift);
                length++;
            }
        }

        void rewind() {
            behind = 0;
        }

        /** Puts the next token at hand. */
        void step() {
            place = behind;
            while (place < length && (bytes[place] == ' ' || bytes[place] == '\n')) {
                place++;
            }
            behind = place;
            if (place >= length) {
                kind = AT_END;
            } else if (isLetter(bytes[place])) {
                readWord();
            } else if (isDigit(bytes[place]) || bytes[place] == '-') {
                readNumber();
            } else {
                behind = place + 1;
                kind = bytes[place] == ';' ? SEMICOLON : bytes[place] == ':' ? COLON : STRANGE;
            }
        }

        private void readWord() {
            while (behind < length && isLetter(bytes[behind])) {
                behind++;
            }
            if (isWord("crew")) {
                kind = CREW;
            } else if (isWord("limit")) {
                kind = LIMIT;
            } else if (isWord("race")) {
                kind = RACE;
            } else if (isWord("by")) {
                kind = BY;
            } else if (isWord("up")) {
                kind = UP;
            } else if (isWord("down")) {
                kind = DOWN;
            } else {
                kind = STRANGE;
            }
        }

        private void readNumber() {
            boolean negative = bytes[place] == '-';
            int first = negative ? place + 1 : place;
            int size = 0;
            behind = first;
            while (behind < length && isDigit(bytes[behind])) {
                if (behind - first < MOST_DIGITS) {
                    size = size * 10 + bytes[behind] - '0';
                }
                behind++;
            }
            int digits = behind - first;
            kind = digits >= 1 && digits <= MOST_DIGITS ? NUMBER : STRANGE;
            value = negative ? -size : size;
        }

        private boolean isWord(String word) {
            if (behind - place != word.length()) {
                return false;
            }
            for (int i = 0; i < word.length(); i++) {
                if (bytes[place + i] != word.charAt(i)) {
                    return false;
                }
            }
            return true;
        }

        private static boolean isLetter(int sign) {
            return sign >= 'a' && sign <= 'z';
        }

        private static boolean isDigit(int sign) {
            return sign >= '0' && sign <= '9';
        }
    }

    /** Tells the tape to a draft of the log, statement by statement, up to the first fault. */
    private static final class Teller {
        private static final int MISPLACED = 1;
        private static final int IMPOSSIBLE = 2;
        private static final int TWICE = 3;
        private static final int TOO_MANY = 4;

        int statements = 0;
        int flaw = 0;
        final Reader reader = new Reader();
        final Log draft = new Log();
        private int crewA = 0;
        private int crewB = 0;

        boolean readAll() {
            flaw = 0;
            statements = 0;
            reader.rewind();
            reader.step();
            while (reader.kind != Reader.AT_END && statements < MOST_BYTES) {
                boolean good;
                switch (reader.kind) {
                    case Reader.CREW:
                        good = readRowers();
                        break;
                    case Reader.LIMIT:
                        good = readBound();
                        break;
                    case Reader.RACE:
                        good = readRace();
                        break;
                    default:
                        good = refuse(MISPLACED);
                        break;
                }
                if (!good) {
                    return false;
                }
                if (reader.kind != Reader.SEMICOLON) {
                    return refuse(MISPLACED);
                }
                reader.step();
                statements++;
            }
            return true;
        }

        private boolean refuse(int kind) {
            flaw = kind + 8 * reader.place;
            return false;
        }

        private boolean readRowers() {
            reader.step();
            if (reader.kind != Reader.NUMBER) {
                return refuse(MISPLACED);
            }
            if (!Log.isRowerCount(reader.value)) {
                return refuse(IMPOSSIBLE);
            }
            draft.begin(reader.value);
            reader.step();
            return true;
        }

        private boolean readBound() {
            reader.step();
            if (reader.kind != Reader.NUMBER) {
                return refuse(MISPLACED);
            }
            if (!Log.isBound(reader.value)) {
                return refuse(IMPOSSIBLE);
            }
            draft.bound = reader.value;
            reader.step();
            return true;
        }

        private boolean readRace() {
            if (draft.isFull()) {
                return refuse(TOO_MANY);
            }
            reader.step();
            crewA = 0;
            crewB = 0;
            if (!readCrew(true)) {
                return false;
            }
            if (reader.kind != Reader.COLON) {
                return refuse(MISPLACED);
            }
            reader.step();
            if (!readCrew(false)) {
                return false;
            }
            if (reader.kind != Reader.BY) {
                return refuse(MISPLACED);
            }
            if (Integer.bitCount(crewB) < Integer.bitCount(crewA)) {
                return refuse(TOO_MANY);
            }
            reader.step();
            return readMargin();
        }

        /** Reads the rowers of A, or else those of B, who may not be more than A's. */
        private boolean readCrew(boolean isA) {
            if (reader.kind != Reader.NUMBER) {
                return refuse(MISPLACED);
            }
            int most = isA ? MOST_IN_CREW : Integer.bitCount(crewA);
            for (int seat = 0; seat <= most && reader.kind == Reader.NUMBER; seat++) {
                if (!draft.hasRower(reader.value)) {
                    return refuse(IMPOSSIBLE);
                }
                int rower = 1 << reader.value;
                if (((crewA | crewB) & rower) != 0) {
                    return refuse(TWICE);
                }
                if (seat == most) {
                    return refuse(TOO_MANY);
                }
                if (isA) {
                    crewA |= rower;
                } else {
                    crewB |= rower;
                }
                reader.step();
            }
            return true;
        }

        private boolean readMargin() {
            if (reader.kind != Reader.NUMBER) {
                return refuse(MISPLACED);
            }
            int margin = reader.value;
            reader.step();
            int stream = reader.kind == Reader.UP ? 1 : reader.kind == Reader.DOWN ? -1 : 0;
            if (stream != 0) {
                reader.step();
            }
            draft.append(crewA, crewB, margin, stream);
            return true;
        }
    }
}
