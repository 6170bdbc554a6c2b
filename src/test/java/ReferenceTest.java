import java.util.NoSuchElementException;
import java.util.Random;

/** Runs of calls, the same each time, on the class and on the reference; all answers must be alike. */
public final class ReferenceTest {
    private static final int RUNS = 150;
    private static final int STEPS = 200;
    private static final int MOST_CALLS = 512;
    /** More than any step makes: a text of 300 bytes and all that is asked behind it, 12 races with it. */
    private static final int STEP_CALLS = 100;

    private final Random random;
    private final String name;
    private SeatRacing x = new SeatRacing();
    private Reference y = new Reference();
    private int calls = 0;
    private final int style;

    private ReferenceTest(int seed) {
        random = new Random(seed);
        name = "run " + seed + ": ";
        style = seed % 5;
    }

    public static void main(String[] args) {
        int runs = args.length > 0 ? Integer.parseInt(args[0]) : RUNS;
        int first = args.length > 1 ? Integer.parseInt(args[1]) : 0;
        for (int seed = first; seed < first + runs; seed++) {
            new ReferenceTest(seed).run();
        }
        Check.done("ReferenceTest");
    }

    /** Each is one call of x. */
    private void due(String call, long got, long want) {
        calls++;
        Check.due(name + call, got, want);
    }

    private void due(String call, boolean got, boolean want) {
        due(call, got ? 1 : 0, want ? 1 : 0);
    }

    /** What is told goes to new objects, since one that is used for more than 512 calls may answer as it likes. */
    private void renew() {
        Check.due(name + "calls of one object, " + calls + ", are not too many", calls <= MOST_CALLS, true);
        Reference old = y;
        x = new SeatRacing();
        y = new Reference();
        calls = 0;
        due("crew(" + old.n + ")", x.crew(old.n), y.crew(old.n));
        due("limit(" + old.limit + ")", x.limit(old.limit), y.limit(old.limit));
        for (Reference.Race race : old.races) {
            due(race.toString(), x.race(race.a(), race.b(), race.margin(), race.stream()),
                y.race(race.a(), race.b(), race.margin(), race.stream()));
        }
    }

    private void run() {
        for (int step = 0; step < STEPS; step++) {
            if (calls > MOST_CALLS - STEP_CALLS) {
                renew();
            }
            if (step == 0 || random.nextInt(60) == 0) {
                int n = style == 0 ? 6 : random.nextInt(5) == 0 ? random.nextInt(10) - 2 : 2 + random.nextInt(5);
                due("crew(" + n + ")", x.crew(n), y.crew(n));
            } else if (random.nextInt(3) == 0) {
                change();
            } else {
                ask(random.nextInt(14));
            }
        }
        everyNumber();
    }

    private int strange(int usual) {
        int[] odd = {-1, usual, usual + 1, Integer.MIN_VALUE, Integer.MAX_VALUE, 31, 32, 64};
        return odd[random.nextInt(odd.length)];
    }

    private int upTo(int bound) {
        return random.nextInt(25) == 0 ? strange(bound) : random.nextInt(Math.max(1, bound));
    }

    private void change() {
        switch (random.nextInt(12)) {
            case 0:
                int race = upTo(y.races.size());
                due("strike(" + race + ")", x.strike(race), y.strike(race));
                break;
            case 1:
                int v = random.nextInt(4) == 0 ? strange(99) : 1 + random.nextInt(99);
                due("limit(" + v + ")", x.limit(v), y.limit(v));
                break;
            case 2:
            case 3:
                text();
                break;
            case 4:
                tape();
                break;
            default:
                row();
                break;
        }
    }

    private void row() {
        int a = 0;
        int b = 0;
        int size = 1 + random.nextInt(3);
        for (int tries = 0; tries < 20 && Integer.bitCount(a) < size; tries++) {
            a |= 1 << random.nextInt(Math.max(1, y.n));
        }
        for (int tries = 0; tries < 40 && Integer.bitCount(b) < size; tries++) {
            b |= 1 << random.nextInt(Math.max(1, y.n)) & ~a;
        }
        if (random.nextInt(6) == 0) {
            a = upTo(1 << y.n);
        }
        if (!y.races.isEmpty() && random.nextInt(3) == 0) {
            // A swap of two of a race that there is, or the very race again.
            Reference.Race old = y.races.get(random.nextInt(y.races.size()));
            int i = 1 << random.nextInt(6);
            int j = 1 << random.nextInt(6);
            boolean swap = (old.a() & i) != 0 && (old.b() & j) != 0;
            a = swap ? old.a() ^ i ^ j : old.b();
            b = swap ? old.b() ^ i ^ j : old.a();
        }
        int margin = style == 1 ? (random.nextBoolean() ? 999 : -999)
            : style == 2 ? random.nextInt(5) - 2 : random.nextInt(2001) - 1000;
        int stream = random.nextInt(12) == 0 ? strange(1) : style == 3 ? 0 : random.nextInt(3) - 1;
        due("race(" + a + ", " + b + ", " + margin + ", " + stream + ")",
            x.race(a, b, margin, stream), y.race(a, b, margin, stream));
    }

    private void tape() {
        int[] five = new int[5];
        for (int i = 0; i < 5; i++) {
            five[i] = random.nextInt();
        }
        for (int times = random.nextInt(18); times >= 0; times--) {
            due("feed", x.feed(five[0], five[1], five[2], five[3], five[4]),
                y.feed(five[0], five[1], five[2], five[3], five[4]));
        }
        due("count(3)", x.count(3), y.count(3));
        int n = random.nextInt(330) - 10;
        due("end(" + n + ")", x.end(n), y.end(n));
        tellBoth("strange bytes");
    }

    private void text() {
        due("end(0)", x.end(0), y.end(0));
        String text = new ReferenceTexting(random, y.n).text();
        byte[] bytes = Check.bytes(text);
        for (int[] five : Check.numbers(bytes)) {
            due("feed", x.feed(five[0], five[1], five[2], five[3], five[4]),
                y.feed(five[0], five[1], five[2], five[3], five[4]));
        }
        // Often cut off in its middle, so that more bytes lie right behind the tape's end.
        int n = random.nextInt(6) == 0 ? random.nextInt(bytes.length + 1) : bytes.length;
        due("end(" + n + ")", x.end(n), y.end(n));
        tellBoth(text.substring(0, n));
    }

    private void tellBoth(String text) {
        due("tell() of " + text, x.tell(), y.tell());
        due("fault(0) of " + text, x.fault(0), y.fault(0));
        due("fault(1) of " + text, x.fault(1), y.fault(1));
        due("count(0) behind " + text, x.count(0), y.count(0));
        due("count(1) behind " + text, x.count(1), y.count(1));
        due("count(2) behind " + text, x.count(2), y.count(2));
        due("count(3) behind " + text, x.count(3), y.count(3));
        allRaces();
    }

    private void allRaces() {
        for (int race = 0; race < y.races.size(); race++) {
            for (int what = 0; what < 4; what++) {
                raced(race, what);
            }
        }
    }

    private void raced(int race, int what) {
        long got;
        long want;
        try {
            got = x.raced(race, what);
        } catch (NoSuchElementException e) {
            got = Long.MIN_VALUE;
        }
        try {
            want = y.raced(race, what);
        } catch (NoSuchElementException e) {
            want = Long.MIN_VALUE;
        }
        due("raced(" + race + ", " + what + ")", got, want);
    }

    private void ask(int which) {
        int i = upTo(y.n);
        int j = upTo(y.n);
        int k = random.nextInt(15) == 0 ? strange(3) : 1 + random.nextInt(3);
        boolean under = random.nextBoolean();
        switch (which) {
            case 0:
                int what = upTo(7);
                due("count(" + what + ")", x.count(what), y.count(what));
                break;
            case 1:
                raced(upTo(y.races.size()), upTo(4));
                break;
            case 2:
                due("difference(" + i + ", " + j + ", " + under + ")",
                    x.difference(i, j, under), y.difference(i, j, under));
                break;
            case 3:
                due("doubt(" + i + ", " + j + ", " + under + ")", x.doubt(i, j, under), y.doubt(i, j, under));
                break;
            case 4:
                due("drift(" + under + ")", x.drift(under), y.drift(under));
                break;
            case 5:
                int race = upTo(y.races.size());
                due("rest(" + race + ", " + under + ")", x.rest(race, under), y.rest(race, under));
                break;
            case 6:
                due("sum(" + under + ")", x.sum(under), y.sum(under));
                break;
            case 7:
                guess(under);
                break;
            case 8:
                int of = upTo(4);
                due("rank(" + i + ", " + of + ")", x.rank(i, of), y.rank(i, of));
                break;
            case 9:
                due("suit(" + i + ", " + j + ", " + under + ")", x.suit(i, j, under), y.suit(i, j, under));
                break;
            case 10:
                int part = upTo(3);
                due("swaps(" + i + ", " + j + ", " + part + ")", x.swaps(i, j, part), y.swaps(i, j, part));
                break;
            default:
                look(which, k);
                break;
        }
    }

    private void look(int which, int k) {
        int what = upTo(5);
        switch (which) {
            case 11:
                due("next(" + k + ", " + what + ")", x.next(k, what), y.next(k, what));
                break;
            case 12:
                due("odd(" + what + ")", x.odd(what), y.odd(what));
                due("fewest(" + k + ")", x.fewest(k), y.fewest(k));
                break;
            default:
                due("even(" + k + ", " + what + ")", x.even(k, what), y.even(k, what));
                break;
        }
    }

    private void guess(boolean under) {
        boolean doubts = random.nextBoolean();
        int stream = random.nextInt(10) == 0 ? strange(1) : random.nextInt(3) - 1;
        int a = upTo(1 << y.n);
        int b = upTo(1 << y.n);
        for (int tries = 0; tries < 30 && !y.crewsCanBe(a, b); tries++) {
            a = random.nextInt(1 << y.n);
            b = random.nextInt(1 << y.n);
        }
        due("guess(" + a + ", " + b + ", " + stream + ", " + doubts + ", " + under + ")",
            x.guess(a, b, stream, doubts, under), y.guess(a, b, stream, doubts, under));
    }

    /** At a run's end, each number that can be asked for, of like objects. */
    private void everyNumber() {
        for (int i = -1; i <= y.n; i++) {
            renew();
            for (int what = -1; what < 5; what++) {
                due("rank(" + i + ", " + what + ")", x.rank(i, what), y.rank(i, what));
            }
            for (int j = -1; j <= y.n; j++) {
                String two = "(" + i + ", " + j + ", ";
                for (boolean under : new boolean[] {false, true}) {
                    due("difference" + two + under + ")", x.difference(i, j, under), y.difference(i, j, under));
                    due("suit" + two + under + ")", x.suit(i, j, under), y.suit(i, j, under));
                }
                for (int what = -1; what < 4; what++) {
                    due("swaps" + two + what + ")", x.swaps(i, j, what), y.swaps(i, j, what));
                }
            }
        }
        renew();
        for (int what = -1; what < 8; what++) {
            due("count(" + what + ")", x.count(what), y.count(what));
            due("odd(" + what + ")", x.odd(what), y.odd(what));
        }
        for (int race = -1; race <= y.races.size(); race++) {
            due("rest(" + race + ", false)", x.rest(race, false), y.rest(race, false));
            due("rest(" + race + ", true)", x.rest(race, true), y.rest(race, true));
        }
        for (int k = 0; k <= 4; k++) {
            due("even(" + k + ", 0)", x.even(k, 0), y.even(k, 0));
            due("even(" + k + ", 1)", x.even(k, 1), y.even(k, 1));
            due("next(" + k + ", 3)", x.next(k, 3), y.next(k, 3));
        }
        renew();
    }
}
