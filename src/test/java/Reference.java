import java.math.BigInteger;
import java.nio.ByteBuffer;
import java.nio.charset.StandardCharsets;
import java.util.ArrayList;
import java.util.List;
import java.util.NoSuchElementException;
import java.util.regex.Matcher;
import java.util.regex.Pattern;

/**
 * The document's face once more, written from its words with other means than the class: fractions
 * of BigIntegers, KNOWN by ranks, DOUBT by Lagrange's equations, FEWEST by trying all.
 */
final class Reference {
    static final long NO_NUMBER = -1000000000000000000L;

    record Race(int a, int b, int margin, int stream) {
        long[] form() {
            long[] form = new long[7];
            for (int i = 0; i < 6; i++) {
                form[i] = (a >> i & 1) - (b >> i & 1);
            }
            form[6] = stream;
            return form;
        }
    }

    record Q(BigInteger up, BigInteger low) implements Comparable<Q> {
        static final Q ZERO = of(0);

        static Q of(long n) {
            return new Q(BigInteger.valueOf(n), BigInteger.ONE);
        }

        static Q of(BigInteger up, BigInteger low) {
            BigInteger g = up.gcd(low);
            if (low.signum() < 0) {
                g = g.negate();
            }
            return new Q(up.divide(g), low.divide(g));
        }

        Q plus(Q o) {
            return of(up.multiply(o.low).add(o.up.multiply(low)), low.multiply(o.low));
        }

        Q times(Q o) {
            return of(up.multiply(o.up), low.multiply(o.low));
        }

        Q minus(Q o) {
            return plus(o.times(of(-1)));
        }

        Q over(Q o) {
            return of(up.multiply(o.low), low.multiply(o.up));
        }

        boolean isZero() {
            return up.signum() == 0;
        }

        Q size() {
            return up.signum() < 0 ? times(of(-1)) : this;
        }

        public int compareTo(Q o) {
            return up.multiply(o.low).compareTo(o.up.multiply(low));
        }

        long tell(boolean under) {
            return (under ? low : up).longValueExact();
        }
    }

    int n = 0;
    int limit = 10;
    List<Race> races = new ArrayList<>();
    private final StringBuilder tape = new StringBuilder();
    private int fault = 0;
    private int faultStatement = -1;

    // ---- what is told

    int feed(int a, int b, int c, int d, int e) {
        if (tape.length() + 20 > 300) {
            return -1;
        }
        ByteBuffer twenty = ByteBuffer.allocate(20).putInt(a).putInt(b).putInt(c).putInt(d).putInt(e);
        tape.append(new String(twenty.array(), StandardCharsets.ISO_8859_1));
        return tape.length();
    }

    boolean end(int size) {
        if (size < 0 || size > tape.length()) {
            return false;
        }
        tape.setLength(size);
        return true;
    }

    int tell() {
        ReferenceTexts texts = new ReferenceTexts(tape.toString(), n, limit, races);
        tape.setLength(0);
        fault = texts.fault;
        faultStatement = texts.fault == 0 ? -1 : texts.statements;
        if (fault != 0) {
            return -1;
        }
        n = texts.n;
        limit = texts.limit;
        races = texts.races;
        return texts.statements;
    }

    int fault(int what) {
        return what == 0 ? fault : what == 1 ? faultStatement : -1;
    }

    boolean crew(int rowers) {
        if (rowers < 0 || rowers > 6) {
            return false;
        }
        n = rowers;
        races = new ArrayList<>();
        return true;
    }

    boolean limit(int v) {
        if (v < 1 || v > 99 || v == limit) {
            return false;
        }
        limit = v;
        return true;
    }

    boolean crewsCanBe(int a, int b) {
        if (a < 0 || b < 0 || a >= 1 << n || b >= 1 << n) {
            return false;
        }
        int inA = 0;
        int inB = 0;
        for (int i = 0; i < n; i++) {
            inA += a >> i & 1;
            inB += b >> i & 1;
            if ((a >> i & 1) == 1 && (b >> i & 1) == 1) {
                return false;
            }
        }
        return inA == inB && inA > 0 && inA < 4;
    }

    int race(int a, int b, int margin, int stream) {
        if (!crewsCanBe(a, b) || Math.abs((long) margin) > 999 || Math.abs((long) stream) > 1) {
            return -1;
        }
        if (races.size() == 12) {
            return -2;
        }
        races.add(new Race(a, b, margin, stream));
        return races.size() - 1;
    }

    int strike(int race) {
        if (race < 0 || race >= races.size()) {
            return -1;
        }
        races.remove(race);
        return races.size();
    }

    int count(int what) {
        switch (what) {
            case 0: return n;
            case 1: return races.size();
            case 2: return limit;
            case 3: return tape.length();
            case 4: return couplesKnown(races);
            case 5: {
                List<Integer> groups = new ArrayList<>();
                for (int i = 0; i < n; i++) {
                    if (!groups.contains(rank(i, 3))) {
                        groups.add(rank(i, 3));
                    }
                }
                return groups.size();
            }
            case 6: return Ranks.rank(forms(races));
            default: return -1;
        }
    }

    int raced(int race, int what) {
        if (race < 0 || race >= races.size() || what < 0 || what > 3) {
            throw new NoSuchElementException();
        }
        Race r = races.get(race);
        return new int[] {r.a, r.b, r.margin, r.stream}[what];
    }

    // ---- what the races tell

    static List<long[]> forms(List<Race> races) {
        List<long[]> forms = new ArrayList<>();
        for (Race race : races) {
            forms.add(race.form());
        }
        return forms;
    }

    static long[] differenceForm(int i, int j) {
        long[] form = new long[7];
        form[i]++;
        form[j]--;
        return form;
    }

    static boolean known(List<Race> of, long[] form) {
        List<long[]> forms = forms(of);
        int before = Ranks.rank(forms);
        forms.add(form);
        return Ranks.rank(forms) == before;
    }

    int couplesKnown(List<Race> of) {
        int known = 0;
        for (int i = 0; i < n; i++) {
            for (int j = 0; j < i; j++) {
                known += known(of, differenceForm(i, j)) ? 1 : 0;
            }
        }
        return known;
    }

    /** Some BEST strengths and drift: the normal equations. */
    static Q[] best(List<Race> of) {
        Q[][] rows = new Q[7][8];
        for (int i = 0; i < 7; i++) {
            for (int j = 0; j < 8; j++) {
                rows[i][j] = Q.ZERO;
                for (Race race : of) {
                    long[] form = race.form();
                    rows[i][j] = rows[i][j].plus(Q.of(form[i] * (j == 7 ? race.margin : form[j])));
                }
            }
        }
        return solved(rows);
    }

    /** A solution with 0 for what is free; the last column is the right side. */
    static Q[] solved(Q[][] rows) {
        int unknowns = rows[0].length - 1;
        int[] pivotOf = new int[unknowns];
        int done = 0;
        for (int c = 0; c < unknowns; c++) {
            pivotOf[c] = -1;
            for (int r = done; r < rows.length; r++) {
                if (!rows[r][c].isZero()) {
                    Q[] swap = rows[r];
                    rows[r] = rows[done];
                    rows[done] = swap;
                    pivotOf[c] = done;
                    break;
                }
            }
            if (pivotOf[c] < 0) {
                continue;
            }
            for (int r = 0; r < rows.length; r++) {
                if (r == done || rows[r][c].isZero()) {
                    continue;
                }
                Q factor = rows[r][c].over(rows[done][c]);
                for (int k = c; k <= unknowns; k++) {
                    rows[r][k] = rows[r][k].minus(factor.times(rows[done][k]));
                }
            }
            done++;
        }
        Q[] found = new Q[unknowns];
        for (int c = 0; c < unknowns; c++) {
            found[c] = pivotOf[c] < 0 ? Q.ZERO : rows[pivotOf[c]][unknowns].over(rows[pivotOf[c]][c]);
        }
        return found;
    }

    static Q value(List<Race> of, long[] form) {
        Q[] best = best(of);
        Q value = Q.ZERO;
        for (int i = 0; i < 7; i++) {
            value = value.plus(best[i].times(Q.of(form[i])));
        }
        return value;
    }

    /** The least sum of squares of weights whose forms make this one, by Lagrange's equations. */
    static Q doubt(List<Race> of, long[] form) {
        int m = of.size();
        Q[][] rows = new Q[m + 7][m + 8];
        for (Q[] row : rows) {
            java.util.Arrays.fill(row, Q.ZERO);
        }
        for (int r = 0; r < m; r++) {
            rows[r][r] = Q.of(1);
            long[] other = of.get(r).form();
            for (int i = 0; i < 7; i++) {
                rows[r][m + i] = Q.of(other[i]);
                rows[m + i][r] = Q.of(other[i]);
            }
        }
        for (int i = 0; i < 7; i++) {
            rows[m + i][m + 7] = Q.of(form[i]);
        }
        Q[] found = solved(rows);
        Q sum = Q.ZERO;
        for (int r = 0; r < m; r++) {
            sum = sum.plus(found[r].times(found[r]));
        }
        return sum;
    }

    /** The same for a known form, faster: weights that are sums of columns are the least ones. */
    static Q quickDoubt(List<Race> of, long[] form) {
        Q[][] rows = new Q[7][8];
        for (int i = 0; i < 7; i++) {
            for (int j = 0; j < 7; j++) {
                long product = 0;
                for (Race race : of) {
                    product += race.form()[i] * race.form()[j];
                }
                rows[i][j] = Q.of(product);
            }
            rows[i][7] = Q.of(form[i]);
        }
        Q[] found = solved(rows);
        Q sum = Q.ZERO;
        for (int i = 0; i < 7; i++) {
            sum = sum.plus(found[i].times(Q.of(form[i])));
        }
        return sum;
    }

    static Q rest(List<Race> of, Race race) {
        return Q.of(race.margin).minus(value(of, race.form()));
    }

    static Q sum(List<Race> of) {
        Q sum = Q.ZERO;
        for (Race race : of) {
            Q rest = rest(of, race);
            sum = sum.plus(rest.times(rest));
        }
        return sum;
    }

    private boolean rower(int i) {
        return i >= 0 && i < n;
    }

    private long tellForm(long[] form, boolean doubts, boolean under) {
        if (!known(races, form)) {
            return NO_NUMBER;
        }
        return (doubts ? doubt(races, form) : value(races, form)).tell(under);
    }

    long difference(int i, int j, boolean under) {
        return rower(i) && rower(j) ? tellForm(differenceForm(i, j), false, under) : NO_NUMBER;
    }

    long doubt(int i, int j, boolean under) {
        return rower(i) && rower(j) ? tellForm(differenceForm(i, j), true, under) : NO_NUMBER;
    }

    long drift(boolean under) {
        return tellForm(new long[] {0, 0, 0, 0, 0, 0, 1}, false, under);
    }

    long rest(int race, boolean under) {
        if (race < 0 || race >= races.size()) {
            return NO_NUMBER;
        }
        return rest(races, races.get(race)).tell(under);
    }

    long sum(boolean under) {
        return sum(races).tell(under);
    }

    long guess(int a, int b, int stream, boolean doubts, boolean under) {
        if (!crewsCanBe(a, b) || stream < -1 || stream > 1) {
            return NO_NUMBER;
        }
        return tellForm(new Race(a, b, 0, stream).form(), doubts, under);
    }

    private boolean ahead(int i, int j, boolean surely) {
        long[] form = differenceForm(i, j);
        if (!known(races, form)) {
            return false;
        }
        Q value = value(races, form);
        if (value.compareTo(Q.ZERO) <= 0) {
            return false;
        }
        return !surely || value.compareTo(doubt(races, form).times(Q.of(limit))) > 0;
    }

    int rank(int rower, int what) {
        if (!rower(rower) || what < 0 || what > 3) {
            return -1;
        }
        int answer = 0;
        for (int other = 0; other < n; other++) {
            switch (what) {
                case 0: answer += ahead(other, rower, false) ? 1 : 0; break;
                case 1: answer += ahead(other, rower, true) ? 1 : 0; break;
                case 2: answer += ahead(rower, other, true) ? 1 : 0; break;
                default: answer += known(races, differenceForm(rower, other)) ? 1 << other : 0; break;
            }
        }
        return answer;
    }

    // ---- what is looked for

    long suit(int i, int j, boolean under) {
        if (!rower(i) || !rower(j) || i == j) {
            return NO_NUMBER;
        }
        Q suit = Q.ZERO;
        for (Race race : races) {
            if ((race.a >> i & race.a >> j & 1) == 1) {
                suit = suit.plus(rest(races, race));
            }
            if ((race.b >> i & race.b >> j & 1) == 1) {
                suit = suit.minus(rest(races, race));
            }
        }
        return suit.tell(under);
    }

    /** What r and s tell of i less j, doubled, or null if they are no swap of these. */
    private static Integer swap(Race r, Race s, int i, int j) {
        if (r.stream != s.stream) {
            return null;
        }
        for (int other = 0; other < 6; other++) {
            if (other != i && other != j
                && ((r.a >> other & 1) != (s.a >> other & 1) || (r.b >> other & 1) != (s.b >> other & 1))) {
                return null;
            }
        }
        boolean first = (r.a >> i & r.b >> j & s.a >> j & s.b >> i & 1) == 1;
        boolean second = (s.a >> i & s.b >> j & r.a >> j & r.b >> i & 1) == 1;
        return first ? Integer.valueOf(r.margin - s.margin) : second ? Integer.valueOf(s.margin - r.margin) : null;
    }

    long swaps(int i, int j, int what) {
        if (!rower(i) || !rower(j) || i == j || what < 0 || what > 2) {
            return NO_NUMBER;
        }
        int found = 0;
        Q total = Q.ZERO;
        for (int r = 0; r < races.size(); r++) {
            for (int s = r + 1; s < races.size(); s++) {
                Integer twice = swap(races.get(r), races.get(s), i, j);
                if (twice != null) {
                    found++;
                    total = total.plus(Q.of(twice).over(Q.of(2)));
                }
            }
        }
        if (what == 0) {
            return found;
        }
        return found == 0 ? NO_NUMBER : total.over(Q.of(found)).tell(what == 2);
    }

    List<Race> matches(int k) {
        List<Race> matches = new ArrayList<>();
        for (int a = 0; a < 1 << n; a++) {
            for (int b = 0; b < 1 << n; b++) {
                if (crewsCanBe(a, b) && Integer.bitCount(a) == k
                    && Integer.numberOfTrailingZeros(a) < Integer.numberOfTrailingZeros(b)) {
                    matches.add(new Race(a, b, 0, 0));
                }
            }
        }
        return matches;
    }

    long next(int k, int what) {
        Race found = null;
        int foundKnown = 0;
        Q foundDoubts = Q.ZERO;
        for (Race match : matches(k)) {
            List<Race> with = new ArrayList<>(races);
            with.add(match);
            int known = couplesKnown(with);
            Q doubts = Q.ZERO;
            for (int i = 0; i < n; i++) {
                for (int j = 0; j < i; j++) {
                    if (known >= foundKnown && known(with, differenceForm(i, j))) {
                        doubts = doubts.plus(quickDoubt(with, differenceForm(i, j)));
                    }
                }
            }
            if (found == null || known > foundKnown || known == foundKnown && doubts.compareTo(foundDoubts) < 0) {
                found = match;
                foundKnown = known;
                foundDoubts = doubts;
            }
        }
        if (found == null || what < 0 || what > 4) {
            return -1;
        }
        return new long[] {found.a, found.b, foundKnown, foundDoubts.tell(false), foundDoubts.tell(true)}[what];
    }

    int fewest(int k) {
        if (k < 1 || k > 3) {
            return -1;
        }
        Ranks start = new Ranks();
        for (long[] form : forms(races)) {
            start.add(form);
        }
        List<long[]> matches = forms(matches(k));
        for (int more = 0; more <= 6; more++) {
            if (enough(start, matches, 0, more)) {
                return more;
            }
        }
        return -1;
    }

    /** Can so many of the matches from one on make all differences known? */
    private boolean enough(Ranks ranks, List<long[]> matches, int from, int more) {
        if (more == 0) {
            for (int i = 1; i < n; i++) {
                if (!ranks.spans(differenceForm(0, i))) {
                    return false;
                }
            }
            return true;
        }
        for (int m = from; m < matches.size(); m++) {
            if (ranks.spans(matches.get(m))) {
                continue;
            }
            Ranks with = new Ranks(ranks);
            with.add(matches.get(m));
            if (enough(with, matches, m + 1, more - 1)) {
                return true;
            }
        }
        return false;
    }

    long odd(int what) {
        if (races.isEmpty() || what < 0 || what > 2) {
            return -1;
        }
        int found = -1;
        Q least = null;
        for (int r = 0; r < races.size(); r++) {
            List<Race> without = new ArrayList<>(races);
            without.remove(r);
            Q sum = sum(without);
            if (least == null || sum.compareTo(least) < 0) {
                least = sum;
                found = r;
            }
        }
        return what == 0 ? found : least.tell(what == 2);
    }

    int even(int k, int what) {
        Race found = null;
        Q least = null;
        for (Race match : matches(k)) {
            if (known(races, match.form())) {
                Q size = value(races, match.form()).size();
                if (least == null || size.compareTo(least) < 0) {
                    least = size;
                    found = match;
                }
            }
        }
        return found == null || what < 0 || what > 1 ? -1 : what == 0 ? found.a : found.b;
    }

    /** Ranks by a prime far above each determinant that forms can have, so that they are the true ones. */
    static final class Ranks {
        private static final long PRIME = 1000000007L;
        private final List<long[]> rows = new ArrayList<>();

        Ranks() {
        }

        Ranks(Ranks other) {
            rows.addAll(other.rows);
        }

        static int rank(List<long[]> forms) {
            Ranks ranks = new Ranks();
            for (long[] form : forms) {
                ranks.add(form);
            }
            return ranks.rows.size();
        }

        private static int lead(long[] row) {
            for (int i = 0; i < row.length; i++) {
                if (row[i] != 0) {
                    return i;
                }
            }
            return -1;
        }

        private static long inverse(long x) {
            return BigInteger.valueOf(x).modInverse(BigInteger.valueOf(PRIME)).longValue();
        }

        private long[] left(long[] form) {
            long[] left = new long[form.length];
            for (int i = 0; i < left.length; i++) {
                left[i] = Math.floorMod(form[i], PRIME);
            }
            for (long[] row : rows) {
                long times = left[lead(row)];
                for (int i = 0; i < left.length; i++) {
                    left[i] = Math.floorMod(left[i] - times * row[i], PRIME);
                }
            }
            return left;
        }

        boolean spans(long[] form) {
            return lead(left(form)) < 0;
        }

        void add(long[] form) {
            long[] left = left(form);
            int lead = lead(left);
            if (lead < 0) {
                return;
            }
            long times = inverse(left[lead]);
            for (int i = 0; i < left.length; i++) {
                left[i] = left[i] * times % PRIME;
            }
            rows.add(left);
        }
    }

    /** The texts: all tokens by a pattern first, then one rule after another along them. */
    static final class ReferenceTexts {
        private static final Pattern TOKEN = Pattern.compile("[a-z]+|-?[0-9]+|[^ \n]", Pattern.DOTALL);

        int n;
        int limit;
        List<Race> races;
        int statements = 0;
        int fault = 0;
        private final List<String> tokens = new ArrayList<>();
        private final List<Integer> places = new ArrayList<>();
        private int at = 0;

        ReferenceTexts(String text, int n, int limit, List<Race> races) {
            this.n = n;
            this.limit = limit;
            this.races = new ArrayList<>(races);
            Matcher matcher = TOKEN.matcher(text);
            while (matcher.find()) {
                tokens.add(matcher.group());
                places.add(matcher.start());
            }
            tokens.add("");
            places.add(text.length());
            while (fault == 0 && !tokens.get(at).isEmpty()) {
                statement();
                must(tokens.get(at).equals(";"), 1);
                if (fault == 0) {
                    at++;
                    statements++;
                }
            }
        }

        /** The first thing that does not hold is the fault. */
        private boolean must(boolean holds, int kind) {
            if (fault == 0 && !holds) {
                fault = kind + 8 * places.get(at);
            }
            return fault == 0;
        }

        private boolean isInt() {
            return tokens.get(at).matches("-?[0-9]{1,3}");
        }

        private int takeInt() {
            return Integer.parseInt(tokens.get(at));
        }

        private void statement() {
            String word = tokens.get(at);
            if (!must(List.of("crew", "limit", "race").contains(word), 1)) {
                return;
            }
            if (word.equals("race")) {
                if (must(races.size() < 12, 4)) {
                    at++;
                    raceBehindWord();
                }
                return;
            }
            at++;
            if (!must(isInt(), 1)) {
                return;
            }
            int number = takeInt();
            boolean isCrew = word.equals("crew");
            if (!must(isCrew ? number >= 0 && number <= 6 : number >= 1 && number <= 99, 2)) {
                return;
            }
            at++;
            if (isCrew) {
                n = number;
                races.clear();
            } else {
                limit = number;
            }
        }

        private void raceBehindWord() {
            List<Integer> all = new ArrayList<>();
            int inA = rowers(all, 3);
            if (!must(tokens.get(at).equals(":"), 1)) {
                return;
            }
            at++;
            int inB = rowers(all, inA);
            if (!must(tokens.get(at).equals("by"), 1) || !must(inB == inA, 4)) {
                return;
            }
            at++;
            if (!must(isInt(), 1)) {
                return;
            }
            int margin = takeInt();
            at++;
            int stream = tokens.get(at).equals("up") ? 1 : tokens.get(at).equals("down") ? -1 : 0;
            at += stream == 0 ? 0 : 1;
            int a = 0;
            int b = 0;
            for (int i = 0; i < all.size(); i++) {
                a |= i < inA ? 1 << all.get(i) : 0;
                b |= i < inA ? 0 : 1 << all.get(i);
            }
            races.add(new Race(a, b, margin, stream));
        }

        private int rowers(List<Integer> all, int most) {
            int taken = 0;
            must(isInt(), 1);
            while (fault == 0 && isInt()) {
                int rower = takeInt();
                if (must(rower >= 0 && rower < n, 2) && must(!all.contains(rower), 3) && must(taken < most, 4)) {
                    all.add(rower);
                    taken++;
                    at++;
                }
            }
            return taken;
        }
    }
}
