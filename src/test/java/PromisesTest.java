import java.util.NoSuchElementException;

/** For each promise of the document: ordinary inputs, the edges it names, wrong inputs. */
public final class PromisesTest {
    private static final long NO = SeatRacing.NO_NUMBER;
    private static final int[] WRONG = {-1, -2, Integer.MIN_VALUE, Integer.MAX_VALUE, 1 << 20};

    private PromisesTest() {
    }

    public static void main(String[] args) {
        newObject();
        feed();
        end();
        tell();
        tellFaults();
        tellCutOff();
        fault();
        crew();
        limit();
        race();
        strike();
        count();
        raced();
        difference();
        doubt();
        drift();
        rest();
        sum();
        guess();
        rank();
        suit();
        swaps();
        next();
        fewest();
        odd();
        even();
        largeNumbers();
        Check.done("PromisesTest");
    }

    private static void due(String call, long got, long want) {
        Check.due(call, got, want);
    }

    private static void due(String call, boolean got, boolean want) {
        Check.due(call, got, want);
    }

    /** An object with so many rowers and these races: a, b, margin, stream of each. */
    private static SeatRacing with(int rowers, int... races) {
        SeatRacing x = new SeatRacing();
        due("crew", x.crew(rowers), true);
        for (int i = 0; i + 3 < races.length; i += 4) {
            due("race", x.race(races[i], races[i + 1], races[i + 2], races[i + 3]), i / 4);
        }
        return x;
    }

    private static void fraction(String call, long upper, long lower, long wantUpper, long wantLower) {
        due(call + ", upper", upper, wantUpper);
        due(call + ", lower", lower, wantLower);
    }

    private static boolean throwsNone(SeatRacing x, int race, int what) {
        try {
            x.raced(race, what);
            return true;
        } catch (NoSuchElementException e) {
            return false;
        }
    }

    // promise 1
    private static void newObject() {
        SeatRacing x = new SeatRacing();
        int[] counts = {0, 0, 10, 0, 0, 0, 0};
        for (int what = 0; what < counts.length; what++) {
            due("new: count(" + what + ")", x.count(what), counts[what]);
        }
        due("new: race", x.race(1, 2, 0, 0), -1);
        due("new: race", x.race(0, 0, 0, 0), -1);
        due("new: strike", x.strike(0), -1);
        due("new: raced", throwsNone(x, 0, 0), false);
        due("new: difference", x.difference(0, 0, false), NO);
        due("new: doubt", x.doubt(0, 0, true), NO);
        due("new: drift", x.drift(true), NO);
        due("new: rest", x.rest(0, false), NO);
        fraction("new: sum", x.sum(false), x.sum(true), 0, 1);
        due("new: guess", x.guess(1, 2, 0, false, false), NO);
        due("new: rank", x.rank(0, 0), -1);
        due("new: suit", x.suit(0, 1, false), NO);
        due("new: swaps", x.swaps(0, 1, 0), NO);
        for (int k = 1; k <= 3; k++) {
            due("new: next", x.next(k, 0), -1);
            due("new: fewest", x.fewest(k), 0);
            due("new: even", x.even(k, 0), -1);
        }
        due("new: odd", x.odd(0), -1);
        due("new: tell", x.tell(), 0);
    }

    // promise 2
    private static void feed() {
        SeatRacing x = new SeatRacing();
        for (int size = 20; size <= 300; size += 20) {
            due("feed", x.feed(0x20202020, 0x0a0a0a0a, 0x20202020, 0x20202020, 0x2020200a), size);
        }
        due("feed beyond 300", x.feed(-1, -1, -1, -1, -1), -1);
        due("count(3)", x.count(3), 300);
        due("tell of blanks", x.tell(), 0);

        due("end(0)", x.end(0), true);
        due("feed", x.feed(-1, -1, -1, -1, -1), 20);
        due("end(1)", x.end(1), true);
        for (int size = 21; size <= 281; size += 20) {
            due("feed", x.feed(-1, -1, -1, -1, -1), size);
        }
        due("feed: 281 and 20", x.feed(-1, -1, -1, -1, -1), -1);
        due("count(3)", x.count(3), 281);
        due("end(280)", x.end(280), true);
        due("feed: 280 and 20", x.feed(-1, -1, -1, -1, -1), 300);
        due("tell", x.tell(), -1);
        due("fault", x.fault(0), 1);

        // "crew 4;limit 7;", a byte after another through all five numbers.
        due("feed", x.feed(0x63726577, 0x20343b6c, 0x696d6974, 0x20373b20, 0x20200a20), 20);
        due("tell", x.tell(), 2);
        due("count(0)", x.count(0), 4);
        due("count(2)", x.count(2), 7);
    }

    // promise 3
    private static void end() {
        SeatRacing x = new SeatRacing();
        due("end(0), empty", x.end(0), true);
        due("end(1), empty", x.end(1), false);
        due("end(-1), empty", x.end(-1), false);
        x.feed(0x6c696d69, 0x7420353b, 0x78787878, 0x78787878, 0x78787878);
        due("end(21)", x.end(21), false);
        for (int n : WRONG) {
            due("end(" + n + ")", x.end(n), false);
        }
        due("count(3)", x.count(3), 20);
        due("end(20)", x.end(20), true);
        due("count(3)", x.count(3), 20);
        due("end(8)", x.end(8), true);
        due("count(3)", x.count(3), 8);
        due("end(9)", x.end(9), false);
        due("tell", x.tell(), 1);
        due("count(2)", x.count(2), 5);
        due("end(0) behind tell", x.end(0), true);
        due("end(1) behind tell", x.end(1), false);
    }

    // promise 4
    private static void tell() {
        SeatRacing x = new SeatRacing();
        Check.tells(x, "", 0);
        Check.tells(x, " \n ", 0);
        Check.tells(x, "crew 6;", 1);
        due("count(0)", x.count(0), 6);
        Check.tells(x, "crew\n4 ;limit 99;race 0 1:2 3 by -999 up;race 3:0by 7down;race 1 : 2 by 0;", 5);
        due("count(0)", x.count(0), 4);
        due("count(1)", x.count(1), 3);
        due("count(2)", x.count(2), 99);
        int[][] races = {{3, 12, -999, 1}, {8, 1, 7, -1}, {2, 4, 0, 0}};
        for (int race = 0; race < 3; race++) {
            for (int what = 0; what < 4; what++) {
                due("raced(" + race + ", " + what + ")", x.raced(race, what), races[race][what]);
            }
        }
        // A text goes on from what there is, and its numbers are used at once.
        Check.tells(x, "race 0:1 by 999;limit 99;limit 1;limit 1;", 4);
        due("count(1)", x.count(1), 4);
        due("count(2)", x.count(2), 1);
        due("difference", x.difference(0, 1, false), 999);
        Check.tells(x, "race 00 : 01 by 5;", 1);
        Check.tells(x, "crew -0;crew 006;race -0 005 004:003 2 1by-0;", 3);
        due("raced A", x.raced(0, 0), 49);
        due("raced B", x.raced(0, 1), 14);
        Check.tells(x, "crew 2;" + "race 0:1 by 1;".repeat(12), 13);
        due("count(1)", x.count(1), 12);
        // crew takes the races away, so there is room for twelve again.
        Check.tells(x, "crew 2;" + "race 1:0 by 1;".repeat(12) + "crew 3;race 0:2 by 4;", 15);
        due("count(1)", x.count(1), 1);
        String most = "limit 3;".repeat(37) + "    ";
        Check.tells(x, most, 37);
        Check.tells(x, "crew2;race0:1by5up;", 2);
        Check.tells(x, "crew 3;", 1);

        // With a fault, all else stays as it was.
        SeatRacing z = with(3, 1, 2, 5, 0);
        Check.faults(z, "limit 50;crew 5;race 0:3 by 3;crew 6;x;", 1, 37, 4);
        due("count(0)", z.count(0), 3);
        due("count(1)", z.count(1), 1);
        due("count(2)", z.count(2), 10);
        due("raced", z.raced(0, 2), 5);
        due("difference", z.difference(0, 1, false), 5);
    }

    // promises 4 and 5: each kind of fault, at its place
    private static void tellFaults() {
        // 1: what can't stand there
        Check.faults(with(5), "x", 1, 0, 0);
        Check.faults(with(5), ";", 1, 0, 0);
        Check.faults(with(5), "crew 3;;", 1, 7, 1);
        Check.faults(with(5), "7", 1, 0, 0);
        Check.faults(with(5), "by", 1, 0, 0);
        Check.faults(with(5), " crew", 1, 5, 0);
        Check.faults(with(5), "crew  ", 1, 6, 0);
        Check.faults(with(5), "crew 3", 1, 6, 0);
        Check.faults(with(5), "crew 3 4;", 1, 7, 0);
        Check.faults(with(5), "crew up;", 1, 5, 0);
        Check.faults(with(5), "crew;", 1, 4, 0);
        Check.faults(with(5), "crew - 3;", 1, 5, 0);
        Check.faults(with(5), "crew --3;", 1, 5, 0);
        Check.faults(with(5), "crew -;", 1, 5, 0);
        Check.faults(with(5), "crew -", 1, 5, 0);
        Check.faults(with(5), "crew 0003;", 1, 5, 0);
        Check.faults(with(5), "crew -0000;", 1, 5, 0);
        Check.faults(with(5), "limit 99999999999999999999;", 1, 6, 0);
        Check.faults(with(5), "crews 3;", 1, 0, 0);
        Check.faults(with(5), "cre 3;", 1, 0, 0);
        Check.faults(with(5), "Crew 3;", 1, 0, 0);
        Check.faults(with(5), "crew\t3;", 1, 4, 0);
        Check.faults(with(5), "crew\r3;", 1, 4, 0);
        Check.faults(with(5), "crew 3\u00bb;", 1, 6, 0);
        Check.faults(with(5), "crew 3\u0000;", 1, 6, 0);
        for (String word : new String[] {"xrew", "drew", "crewz", "acrew", "creww", "mimit", "limid", "lace", "rac"}) {
            Check.faults(with(5), word + " 3;", 1, 0, 0);
        }
        Check.faults(with(5), "race 0 : 1 my 3;", 1, 11, 0);
        Check.faults(with(5), "race 0 : 1 by 3 op;", 1, 16, 0);
        Check.faults(with(5), "race 0 : 1 by 3 town;", 1, 16, 0);
        Check.faults(with(5), "crew`3;", 1, 4, 0);
        Check.faults(with(5), "crew{3;", 1, 4, 0);
        Check.faults(with(5), "crew 3/;", 1, 6, 0);
        Check.faults(with(5), "crew 3:", 1, 6, 0);
        Check.faults(with(5), "crew 3 crew", 1, 7, 0);
        Check.faults(with(5), "race 0; 1 by 3;", 1, 6, 0);
        Check.faults(with(5), "race 0 crew 1 by 3;", 1, 7, 0);
        Check.faults(with(5), "limit 3;limit;", 1, 13, 1);
        Check.faults(with(5), "limit 3 limit 4;", 1, 8, 0);
        Check.faults(with(5), "race :", 1, 5, 0);
        Check.faults(with(5), "race 0 by 3;", 1, 7, 0);
        Check.faults(with(5), "race 0 : by 3;", 1, 9, 0);
        Check.faults(with(5), "race 0 : 1 : 2", 1, 11, 0);
        Check.faults(with(5), "race 0 : 1 up;", 1, 11, 0);
        Check.faults(with(5), "race 0 : 1 by;", 1, 13, 0);
        Check.faults(with(5), "race 0 : 1 by up;", 1, 14, 0);
        Check.faults(with(5), "race 0 : 1 by 1000;", 1, 14, 0);
        Check.faults(with(5), "race 0 : 1 by -1000;", 1, 14, 0);
        Check.faults(with(5), "race 0 : 1 by 1 1;", 1, 16, 0);
        Check.faults(with(5), "race 0 : 1 by 1 up down;", 1, 19, 0);
        Check.faults(with(5), "race 0 : 1 by 1 upp;", 1, 16, 0);
        Check.faults(with(5), "race 0 : 1 byup;", 1, 11, 0);
        Check.faults(with(5), "race 0 : 1 by 1 up", 1, 18, 0);
        Check.faults(with(5), "race", 1, 4, 0);
        Check.faults(with(5), "race 0 1234 : 2 3 by 1;", 1, 7, 0);
        // 2: an INT that can't be
        Check.faults(with(5), "crew 7;", 2, 5, 0);
        Check.faults(with(5), "crew -1;", 2, 5, 0);
        Check.faults(with(5), "crew 999", 2, 5, 0);
        Check.faults(with(5), "limit 0;", 2, 6, 0);
        Check.faults(with(5), "limit 100;", 2, 6, 0);
        Check.faults(with(5), "limit -1;", 2, 6, 0);
        Check.faults(with(5), "race 5 : 1 by 3;", 2, 5, 0);
        Check.faults(with(5), "race -1 : 1 by 3;", 2, 5, 0);
        Check.faults(with(5), "race 1 : 999 by 3;", 2, 9, 0);
        Check.faults(with(5), "crew 1; race 0 : 1 by 3;", 2, 17, 1);
        Check.faults(with(5), "crew 0; race 0 : 1 by 3;", 2, 13, 1);
        Check.faults(with(5), "race 0 1 2 5", 2, 11, 0);
        Check.faults(with(5), "race 0 : 1 -1 by", 2, 11, 0);
        // 3: a ROWER told already
        Check.faults(with(5), "race 0 0 : 1 2 by 3;", 3, 7, 0);
        Check.faults(with(5), "race 0 : 0 by 3;", 3, 9, 0);
        Check.faults(with(5), "race 0 1 : 2 002 by 3;", 3, 13, 0);
        Check.faults(with(5), "race 0 1 2 0", 3, 11, 0);
        Check.faults(with(5), "race 0 : 1 0 by", 3, 11, 0);
        Check.faults(with(5), "race 0 : 1 1 by", 3, 11, 0);
        // 4: too many, too few
        Check.faults(with(5), "race 0 1 2 3 : 4 by 3;", 4, 11, 0);
        Check.faults(with(5), "race 0 : 1 2 by 3;", 4, 11, 0);
        Check.faults(with(5), "race 0 1 : 2 by 3;", 4, 13, 0);
        Check.faults(with(5), "race 0 1 2 : 3 4 by;", 4, 17, 0);
        Check.faults(with(5), "crew 6;race 0 1 2:3 4 5 0;", 3, 24, 1);
        Check.faults(with(5), "race 0 : 1 by 1;".repeat(12) + " race", 4, 193, 12);
        Check.faults(with(5), "race 0:1 by 1;".repeat(12) + "limit 3;race 9", 4, 176, 13);
        Check.faults(with(5), "race 0 : 1 by 1;" + "race 1 : 0 by 1", 1, 31, 1);
        // The first along the text is told, whatever its kind.
        Check.faults(with(5), "race 0 : 0 by 1000", 3, 9, 0);
        Check.faults(with(5), "limit 0 limit", 2, 6, 0);
        Check.faults(with(5), "limit 5 limit 0", 1, 8, 0);
        // Twelve races that were there already count, too.
        SeatRacing z = with(2);
        for (int race = 0; race < 12; race++) {
            z.race(1, 2, race, 0);
        }
        Check.faults(z, "limit 4; race 0 : 1 by 0;", 4, 9, 1);
        due("count(2)", z.count(2), 10);
        Check.tells(z, "crew 2;race 0 : 1 by 0;", 2);
    }

    /** What was cut off by end() is not read, nor anything behind the 300th byte. */
    private static void tellCutOff() {
        SeatRacing x = with(5);
        String[] texts = {"limit 12;", "limit 3;limit 4;", "race 0:1 by 1 up;", "limit -1;", "limit 3; "};
        int[] cuts = {7, 10, 15, 7, 7};
        int[] places = {7, 8, 14, 6, 7};
        int[] statements = {0, 1, 0, 0, 0};
        for (int i = 0; i < texts.length; i++) {
            Check.put(x, Check.bytes(texts[i]));
            due("end(" + cuts[i] + ")", x.end(cuts[i]), true);
            due("tell() of " + texts[i] + ", cut off", x.tell(), -1);
            due("fault(0) of " + texts[i], x.fault(0), 1 + 8 * places[i]);
            due("fault(1) of " + texts[i], x.fault(1), statements[i]);
        }
        String long296 = "limit 3;".repeat(37);
        Check.faults(x, long296 + "crew", 1, 300, 37);
        Check.faults(x, long296 + "   7", 1, 299, 37);
        Check.faults(x, long296 + "   -", 1, 299, 37);
        Check.faults(x, long296 + "   x", 1, 299, 37);
        Check.faults(x, "limit 3;".repeat(36) + " limit    55", 1, 300, 36);
        Check.tells(x, "limit 3;".repeat(36) + "    limit 4;", 37);
        due("count(2)", x.count(2), 4);
    }

    // promise 5
    private static void fault() {
        SeatRacing x = new SeatRacing();
        due("fault(0)", x.fault(0), 0);
        due("fault(1)", x.fault(1), -1);
        due("fault(2)", x.fault(2), -1);
        for (int what : WRONG) {
            due("fault(" + what + ")", x.fault(what), -1);
        }
        Check.faults(x, "crew 3;limit 3;\nlimit 333;", 2, 22, 2);
        x.crew(3);
        x.limit(5);
        x.race(1, 2, 3, 0);
        due("fault(0) stays", x.fault(0), 178);
        due("fault(1) stays", x.fault(1), 2);
        due("fault(2)", x.fault(2), -1);
        due("fault(-1)", x.fault(-1), -1);
        Check.tells(x, "limit 6;", 1);
        Check.faults(x, "!", 1, 0, 0);
        due("tell, empty", x.tell(), 0);
        due("fault(0) behind it", x.fault(0), 0);
        due("fault(1) behind it", x.fault(1), -1);
    }

    // promise 6
    private static void crew() {
        SeatRacing x = new SeatRacing();
        for (int n = 0; n <= 6; n++) {
            due("crew(" + n + ")", x.crew(n), true);
            due("count(0)", x.count(0), n);
        }
        x.limit(20);
        x.race(7, 56, 1, 1);
        due("crew(7)", x.crew(7), false);
        for (int n : WRONG) {
            due("crew(" + n + ")", x.crew(n), false);
        }
        due("count(0)", x.count(0), 6);
        due("count(1)", x.count(1), 1);
        due("crew(6) again", x.crew(6), true);
        due("count(1)", x.count(1), 0);
        due("count(2)", x.count(2), 20);
        due("count(6)", x.count(6), 0);
        due("sum", x.sum(false), 0);
    }

    // promise 7
    private static void limit() {
        SeatRacing x = new SeatRacing();
        due("limit(10)", x.limit(10), false);
        due("limit(1)", x.limit(1), true);
        due("limit(1)", x.limit(1), false);
        due("limit(0)", x.limit(0), false);
        due("limit(99)", x.limit(99), true);
        due("limit(100)", x.limit(100), false);
        for (int v : WRONG) {
            due("limit(" + v + ")", x.limit(v), false);
        }
        due("count(2)", x.count(2), 99);
        due("limit(10)", x.limit(10), true);
    }

    // promise 8
    private static void race() {
        SeatRacing x = with(5);
        int[][] wrong = {
            {0, 0, 0, 0}, {1, 0, 0, 0}, {0, 1, 0, 0}, {1, 1, 0, 0}, {3, 4, 0, 0}, {1, 6, 0, 0}, {3, 6, 0, 0},
            {32, 1, 0, 0}, {1, 32, 0, 0}, {-1, 1, 0, 0}, {1, Integer.MIN_VALUE, 0, 0}, {7, 56, 0, 0},
            {1, 2, 1000, 0}, {1, 2, -1000, 0}, {1, 2, Integer.MIN_VALUE, 0}, {1, 2, 0, 2}, {1, 2, 0, -2},
            {1, 2, 0, Integer.MIN_VALUE}, {1, 2, Integer.MAX_VALUE, 0},
        };
        for (int[] r : wrong) {
            due("race(" + r[0] + ", " + r[1] + ", " + r[2] + ", " + r[3] + ")", x.race(r[0], r[1], r[2], r[3]), -1);
        }
        due("count(1)", x.count(1), 0);
        due("race", x.race(16, 1, 999, -1), 0);
        due("race", x.race(3, 24, -999, 1), 1);
        for (int race = 2; race < 12; race++) {
            due("race", x.race(1, 2, race, 0), race);
        }
        due("a 13th race", x.race(1, 2, 0, 0), -2);
        due("a 13th race that can't be", x.race(1, 1, 0, 0), -1);
        due("a 13th race, margin", x.race(1, 2, 1000, 0), -1);
        due("a 13th race, stream", x.race(1, 2, 0, 3), -1);
        due("count(1)", x.count(1), 12);
        due("three in a crew", with(6).race(21, 42, 0, 0), 0);
        due("four in a crew", with(6).race(15, 48, 0, 0), -1);
    }

    // promise 9
    private static void strike() {
        SeatRacing x = with(3, 1, 2, 10, 0, 2, 4, 20, 1, 4, 1, 30, -1);
        due("strike(3)", x.strike(3), -1);
        for (int race : WRONG) {
            due("strike(" + race + ")", x.strike(race), -1);
        }
        due("strike(0)", x.strike(0), 2);
        due("raced A", x.raced(0, 0), 2);
        due("raced B", x.raced(0, 1), 4);
        due("raced margin", x.raced(0, 2), 20);
        due("raced stream", x.raced(0, 3), 1);
        due("raced margin", x.raced(1, 2), 30);
        due("raced(2, 0)", throwsNone(x, 2, 0), false);
        due("difference(0, 1), by the two that are left", x.difference(0, 1, false), -50);
        due("strike(1)", x.strike(1), 1);
        due("raced margin", x.raced(0, 2), 20);
        due("difference(0, 1), not by one", x.difference(0, 1, false), NO);
        due("strike(0)", x.strike(0), 0);
        due("strike(0)", x.strike(0), -1);
        due("count(1)", x.count(1), 0);
        due("race", x.race(1, 2, 7, 0), 0);
        due("difference", x.difference(0, 1, false), 7);
    }

    // promise 10
    private static void count() {
        SeatRacing x = with(6, 3, 12, 5, 0);
        due("no couple known", x.count(4), 0);
        due("six groups", x.count(5), 6);
        due("one race", x.count(6), 1);
        x.race(12, 3, 5, 0);
        due("the same race turned is known", x.count(6), 1);
        x.race(5, 10, 5, 0);
        due("two races", x.count(6), 2);
        // Strengths 0+1-2-3 and 0+2-1-3 tell twice 0-3, without a race of these.
        due("a couple known", x.count(4), 2);
        due("groups", x.count(5), 4);
        x.race(16, 32, 1, 1);
        due("hidden by the drift", x.count(4), 2);
        x.race(32, 16, 1, 1);
        due("drift known, and with it the couple", x.count(4), 3);
        due("groups", x.count(5), 3);
        due("four races", x.count(6), 4);
        due("count(0)", x.count(0), 6);
        due("count(1)", x.count(1), 5);
        due("count(7)", x.count(7), -1);
        for (int what : WRONG) {
            due("count(" + what + ")", x.count(what), -1);
        }
        SeatRacing y = with(1);
        due("one rower", y.count(4), 0);
        due("one group", y.count(5), 1);
        y.feed(0, 0, 0, 0, 0);
        y.end(13);
        due("count(3)", y.count(3), 13);
    }

    // promise 11
    private static void raced() {
        SeatRacing x = with(6, 7, 56, -999, -1, 1, 32, 4, 1);
        int[][] races = {{7, 56, -999, -1}, {1, 32, 4, 1}};
        for (int race = 0; race < 2; race++) {
            for (int what = 0; what < 4; what++) {
                due("raced(" + race + ", " + what + ")", x.raced(race, what), races[race][what]);
            }
            due("another what", throwsNone(x, race, 4), false);
            due("another what", throwsNone(x, race, -1), false);
        }
        for (int wrong : WRONG) {
            due("raced(" + wrong + ", 0)", throwsNone(x, wrong, 0), false);
            due("raced(0, " + wrong + ")", throwsNone(x, 0, wrong), false);
        }
        due("raced(2, 0)", throwsNone(x, 2, 0), false);
    }

    // promise 12
    private static void difference() {
        // A ring that does not close: 0-1 = 10, 1-2 = 10, 2-0 = -17; a third of 3 goes to each.
        SeatRacing x = with(4, 1, 2, 10, 0, 2, 4, 10, 0, 4, 1, -17, 0);
        fraction("0-1", x.difference(0, 1, false), x.difference(0, 1, true), 9, 1);
        fraction("0-2", x.difference(0, 2, false), x.difference(0, 2, true), 18, 1);
        x.race(1, 2, 10, 0);
        fraction("0-1", x.difference(0, 1, false), x.difference(0, 1, true), 47, 5);
        fraction("1-0", x.difference(1, 0, false), x.difference(1, 0, true), -47, 5);
        fraction("3-3", x.difference(3, 3, false), x.difference(3, 3, true), 0, 1);
        fraction("not known", x.difference(0, 3, false), x.difference(0, 3, true), NO, NO);
        due("no rower 4", x.difference(0, 4, false), NO);
        due("no rower 4", x.difference(4, 4, false), NO);
        for (int wrong : WRONG) {
            due("difference(" + wrong + ", 0)", x.difference(wrong, 0, true), NO);
            due("difference(0, " + wrong + ")", x.difference(0, wrong, true), NO);
        }
        fraction("one rower", with(1).difference(0, 0, false), with(1).difference(0, 0, true), 0, 1);
        // The stream hides the difference until the drift is known.
        SeatRacing y = with(2, 1, 2, 7, 1);
        due("stream", y.difference(0, 1, false), NO);
        y.race(1, 2, 2, -1);
        fraction("0-1", y.difference(0, 1, false), y.difference(0, 1, true), 9, 2);
    }

    // promise 13
    private static void doubt() {
        SeatRacing x = with(4, 1, 2, 10, 0, 2, 4, 10, 0, 4, 1, -17, 0);
        fraction("0-1", x.doubt(0, 1, false), x.doubt(0, 1, true), 2, 3);
        fraction("1-0", x.doubt(1, 0, false), x.doubt(1, 0, true), 2, 3);
        fraction("1-1", x.doubt(1, 1, false), x.doubt(1, 1, true), 0, 1);
        fraction("3-3", x.doubt(3, 3, false), x.doubt(3, 3, true), 0, 1);
        fraction("not known", x.doubt(0, 3, false), x.doubt(0, 3, true), NO, NO);
        due("no rower", x.doubt(4, 4, false), NO);
        for (int wrong : WRONG) {
            due("doubt(" + wrong + ", 0)", x.doubt(wrong, 0, true), NO);
            due("doubt(0, " + wrong + ")", x.doubt(0, wrong, true), NO);
        }
        SeatRacing chain = with(4, 1, 2, 3, 0, 2, 4, 3, 0, 4, 8, 3, 0);
        fraction("along a chain", chain.doubt(0, 3, false), chain.doubt(0, 3, true), 3, 1);
        SeatRacing pairs = with(4, 3, 12, 1, 0, 5, 10, 1, 0);
        fraction("0-3 by halves", pairs.doubt(0, 3, false), pairs.doubt(0, 3, true), 1, 2);
    }

    // promise 14
    private static void drift() {
        SeatRacing x = with(2, 1, 2, 7, 1);
        due("not known", x.drift(false), NO);
        due("not known", x.drift(true), NO);
        x.race(2, 1, 2, 1);
        fraction("both had it", x.drift(false), x.drift(true), 9, 2);
        x.race(1, 2, 0, 0);
        fraction("three races", x.drift(false), x.drift(true), 9, 2);
        SeatRacing y = with(4, 1, 2, -3, -1, 1, 2, -4, 0);
        fraction("B had it", y.drift(false), y.drift(true), -1, 1);
        SeatRacing z = with(4, 1, 2, 5, 0, 4, 8, 5, 1);
        due("without a tie between them", z.drift(false), NO);
        z.race(1, 2, 5, 1);
        fraction("of 0", z.drift(false), z.drift(true), 0, 1);
    }

    // promise 15
    private static void rest() {
        SeatRacing x = with(3, 1, 2, 10, 0, 2, 4, 10, 0, 4, 1, -18, 0);
        for (int race = 0; race < 3; race++) {
            fraction("rest(" + race + ")", x.rest(race, false), x.rest(race, true), 2, 3);
        }
        due("rest(3)", x.rest(3, false), NO);
        for (int wrong : WRONG) {
            due("rest(" + wrong + ")", x.rest(wrong, true), NO);
        }
        x.strike(2);
        fraction("all fits", x.rest(0, false), x.rest(0, true), 0, 1);
        SeatRacing y = with(2, 1, 2, 999, 0, 2, 1, 999, 0);
        fraction("rest(0)", y.rest(0, false), y.rest(0, true), 999, 1);
        fraction("rest(1)", y.rest(1, false), y.rest(1, true), 999, 1);
        SeatRacing z = with(4, 3, 12, 1, 0, 3, 12, -4, 0);
        fraction("no couple known", z.rest(1, false), z.rest(1, true), -5, 2);
    }

    // promise 16
    private static void sum() {
        fraction("without races", with(5).sum(false), with(5).sum(true), 0, 1);
        SeatRacing x = with(3, 1, 2, 10, 0, 2, 4, 10, 0, 4, 1, -18, 0);
        fraction("sum", x.sum(false), x.sum(true), 4, 3);
        x.race(1, 2, 10, 0);
        fraction("sum", x.sum(false), x.sum(true), 8, 5);
        x.strike(2);
        fraction("all fits", x.sum(false), x.sum(true), 0, 1);
    }

    // promise 17
    private static void guess() {
        SeatRacing x = with(6, 3, 12, 9, 1, 3, 12, 4, 0, 12, 3, 0, 0);
        fraction("A and B", x.guess(3, 12, 0, false, false), x.guess(3, 12, 0, false, true), 2, 1);
        fraction("turned", x.guess(12, 3, 0, false, false), x.guess(12, 3, 0, false, true), -2, 1);
        fraction("up", x.guess(3, 12, 1, false, false), x.guess(3, 12, 1, false, true), 9, 1);
        fraction("down", x.guess(3, 12, -1, false, false), x.guess(3, 12, -1, false, true), -5, 1);
        fraction("doubt", x.guess(3, 12, 0, true, false), x.guess(3, 12, 0, true, true), 1, 2);
        fraction("doubt up", x.guess(3, 12, 1, true, false), x.guess(3, 12, 1, true, true), 1, 1);
        fraction("doubt down", x.guess(3, 12, -1, true, false), x.guess(3, 12, -1, true, true), 3, 1);
        due("not known", x.guess(5, 10, 0, false, false), NO);
        due("not known", x.guess(1, 4, 0, true, true), NO);
        int[][] wrong = {
            {0, 0, 0}, {3, 3, 0}, {3, 4, 0}, {3, 12, 2}, {3, 12, -2}, {64, 1, 0}, {-1, -1, 0}, {15, 48, 0},
            {3, 12, Integer.MIN_VALUE}, {Integer.MIN_VALUE, 1, 0},
        };
        for (int[] w : wrong) {
            due("guess(" + w[0] + ", " + w[1] + ", " + w[2] + ")", x.guess(w[0], w[1], w[2], false, false), NO);
            due("its doubt", x.guess(w[0], w[1], w[2], true, true), NO);
        }
        due("no race more", x.count(1), 3);
    }

    // promise 18
    private static void rank() {
        // 0 is 12 ahead of 1, 1 is 10 ahead of 2, 3 and 4 are even, 5 is alone.
        SeatRacing x = with(6, 1, 2, 12, 0, 2, 4, 10, 0, 8, 16, 0, 0);
        int[][] ranks = {{0, 0, 2, 7}, {1, 1, 0, 7}, {2, 1, 0, 7}, {0, 0, 0, 24}, {0, 0, 0, 24}, {0, 0, 0, 32}};
        for (int rower = 0; rower < 6; rower++) {
            for (int what = 0; what < 4; what++) {
                due("rank(" + rower + ", " + what + ")", x.rank(rower, what), ranks[rower][what]);
            }
            due("rank(" + rower + ", 4)", x.rank(rower, 4), -1);
            due("rank(" + rower + ", -1)", x.rank(rower, -1), -1);
        }
        // 22 ahead with a doubt of 2: surely with a limit of 10, not with 11; 10 with a doubt of 1 with 9.
        x.limit(11);
        due("rank(0, 2)", x.rank(0, 2), 1);
        due("rank(2, 1)", x.rank(2, 1), 0);
        due("rank(2, 0)", x.rank(2, 0), 2);
        x.limit(9);
        due("rank(2, 1)", x.rank(2, 1), 2);
        due("rank(1, 2)", x.rank(1, 2), 1);
        due("rank(6, 0)", x.rank(6, 0), -1);
        for (int wrong : WRONG) {
            due("rank(" + wrong + ", 3)", x.rank(wrong, 3), -1);
            due("rank(0, " + wrong + ")", x.rank(0, wrong), -1);
        }
        SeatRacing near = with(2, 2, 1, 1, 0);
        due("ahead, though not surely", near.rank(0, 0), 1);
        due("not surely with a limit of 10", near.rank(0, 1), 0);
        near.limit(1);
        due("1 is not above 1", near.rank(1, 2), 0);
        near.race(2, 1, 1, 0);
        due("1 is above a half", near.rank(1, 2), 1);
        due("1 is above a half", near.rank(0, 1), 1);
        due("one alone", with(1).rank(0, 3), 1);
        due("one alone", with(1).rank(0, 0), 0);
        due("no race", with(6).rank(5, 3), 32);
    }

    // promise 19
    private static void suit() {
        // The pair 0, 1 is told by three races that don't fit together.
        SeatRacing x = with(4, 3, 12, 10, 0, 12, 3, 4, 0, 3, 12, 3, 0);
        fraction("0 and 1", x.suit(0, 1, false), x.suit(0, 1, true), 0, 1);
        SeatRacing y = with(4, 1, 2, 0, 0, 4, 8, 0, 0, 1, 4, 0, 0, 3, 12, 8, 0);
        fraction("0 and 1", y.suit(0, 1, false), y.suit(0, 1, true), 8, 7);
        fraction("1 and 0", y.suit(1, 0, false), y.suit(1, 0, true), 8, 7);
        fraction("2 and 3", y.suit(2, 3, false), y.suit(2, 3, true), -8, 7);
        fraction("0 and 2", y.suit(0, 2, false), y.suit(0, 2, true), 0, 1);
        for (int i = 0; i < 4; i++) {
            due("one and the same", y.suit(i, i, false), NO);
        }
        due("no rower", y.suit(0, 4, false), NO);
        for (int wrong : WRONG) {
            due("suit(" + wrong + ", 0)", y.suit(wrong, 0, true), NO);
            due("suit(0, " + wrong + ")", y.suit(0, wrong, true), NO);
        }
        fraction("no race", with(2).suit(0, 1, false), with(2).suit(0, 1, true), 0, 1);
    }

    // promise 20
    private static void swaps() {
        SeatRacing x = with(6, 3, 12, 10, 0, 6, 9, 3, 0);
        due("0 and 2", x.swaps(0, 2, 0), 1);
        fraction("0 and 2", x.swaps(0, 2, 1), x.swaps(0, 2, 2), 7, 2);
        fraction("2 and 0", x.swaps(2, 0, 1), x.swaps(2, 0, 2), -7, 2);
        due("1 and 3 were as they were", x.swaps(1, 3, 0), 0);
        due("no swap", x.swaps(1, 3, 1), NO);
        due("no swap", x.swaps(1, 3, 2), NO);
        x.race(6, 9, 4, 1);
        due("another stream", x.swaps(0, 2, 0), 1);
        x.race(3, 12, 10, 1);
        due("that stream, too", x.swaps(0, 2, 0), 2);
        fraction("mean", x.swaps(0, 2, 1), x.swaps(0, 2, 2), 13, 4);
        x.race(9, 6, 10, 0);
        due("boats turned are another swap: of 1 and 3", x.swaps(1, 3, 0), 1);
        due("boats turned are none of 0 and 2", x.swaps(0, 2, 0), 2);
        due("0 and 2 with 4 for 1", with(6, 3, 12, 1, 0, 20, 9, 1, 0).swaps(0, 2, 0), 0);
        SeatRacing even = with(2, 1, 2, 5, 0, 2, 1, 5, 0);
        fraction("0", even.swaps(0, 1, 1), even.swaps(0, 1, 2), 0, 1);
        for (int i = 0; i < 6; i++) {
            due("one and the same", x.swaps(i, i, 0), NO);
        }
        due("no rower", x.swaps(0, 6, 0), NO);
        due("swaps(0, 2, 3)", x.swaps(0, 2, 3), NO);
        for (int wrong : WRONG) {
            due("swaps(" + wrong + ", 0, 0)", x.swaps(wrong, 0, 0), NO);
            due("swaps(0, " + wrong + ", 0)", x.swaps(0, wrong, 0), NO);
            due("swaps(0, 2, " + wrong + ")", x.swaps(0, 2, wrong), NO);
        }
    }

    private static void nextIs(SeatRacing x, int k, long... wanted) {
        for (int what = 0; what < 5; what++) {
            due("next(" + k + ", " + what + ")", x.next(k, what), wanted[what]);
        }
    }

    // promise 21
    private static void next() {
        SeatRacing x = with(6);
        nextIs(x, 1, 1, 2, 1, 1, 1);
        nextIs(x, 2, 3, 12, 0, 0, 1);
        nextIs(x, 3, 7, 56, 0, 0, 1);
        // A chain of three: the ring is closed where the doubt is greatest.
        SeatRacing chain = with(3, 2, 1, 5, 0, 1, 4, 5, 0);
        nextIs(chain, 1, 2, 4, 3, 2, 1);
        due("too few for two each", chain.next(2, 0), -1);
        SeatRacing pair = with(4, 3, 12, 1, 0);
        nextIs(pair, 2, 5, 10, 2, 1, 1);
        due("no such size", x.next(0, 0), -1);
        due("no such size", x.next(4, 0), -1);
        for (int wrong : WRONG) {
            due("next(" + wrong + ", 0)", x.next(wrong, 0), -1);
            due("next(1, " + wrong + ")", x.next(1, wrong), -1);
        }
        due("next(1, 5)", x.next(1, 5), -1);
        due("five rowers", with(5).next(3, 0), -1);
        due("one rower", with(1).next(1, 0), -1);
        nextIs(with(2), 1, 1, 2, 1, 1, 1);
        // Twelve races are no hindrance to think of one more.
        SeatRacing full = with(3);
        for (int race = 0; race < 12; race++) {
            full.race(1, 2, 5, 0);
        }
        nextIs(full, 1, 1, 4, 3, 13, 6);
        due("nothing is changed", full.count(4), 1);
    }

    // promise 22
    private static void fewest() {
        for (int n = 0; n <= 6; n++) {
            for (int k = 1; k <= 3; k++) {
                int want = n < 2 ? 0 : n < 2 * k ? -1 : n - 1;
                due("fewest(" + k + ") of " + n, with(n).fewest(k), want);
            }
            due("fewest(0)", with(n).fewest(0), -1);
            due("fewest(4)", with(n).fewest(4), -1);
        }
        SeatRacing x = with(6, 3, 12, 1, 0);
        due("a race that tells no couple helps", x.fewest(1), 4);
        due("a race that tells no couple helps", x.fewest(3), 4);
        x.race(3, 12, 1, 1);
        due("one that tells the drift does not", x.fewest(2), 4);
        x.race(1, 2, 1, 1);
        due("with the drift known, it does", x.fewest(2), 3);
        SeatRacing hidden = with(2, 1, 2, 1, 1);
        due("hidden by the drift", hidden.fewest(1), 1);
        SeatRacing all = with(3, 1, 2, 1, 0, 2, 4, 1, 0);
        due("all known", all.fewest(1), 0);
        due("all known, never needed", all.fewest(3), 0);
        for (int wrong : WRONG) {
            due("fewest(" + wrong + ")", all.fewest(wrong), -1);
        }
        due("nothing is changed", x.count(1), 3);
    }

    private static void oddIs(SeatRacing x, long... wanted) {
        for (int what = 0; what < 3; what++) {
            due("odd(" + what + ")", x.odd(what), wanted[what]);
        }
        due("odd(3)", x.odd(3), -1);
        due("odd(-1)", x.odd(-1), -1);
    }

    // promise 23
    private static void odd() {
        oddIs(with(3), -1, -1, -1);
        oddIs(with(2, 1, 2, 8, 0), 0, 0, 1);
        oddIs(with(2, 1, 2, 8, 0, 1, 2, 9, 0), 0, 0, 1);
        oddIs(with(2, 1, 2, 8, 0, 1, 2, 9, 0, 1, 2, 20, 0, 1, 2, 9, 0), 2, 2, 3);
        oddIs(with(2, 1, 2, 8, 0, 1, 2, 9, 0, 2, 1, 9, 0), 2, 1, 2);
        oddIs(with(3, 1, 2, 8, 0, 2, 4, 9, 0, 4, 1, 9, 0), 0, 0, 1);
        SeatRacing x = with(2, 1, 2, 8, 0, 1, 2, 9, 0, 1, 2, 20, 0);
        oddIs(x, 2, 1, 2);
        for (int wrong : WRONG) {
            due("odd(" + wrong + ")", x.odd(wrong), -1);
        }
        due("nothing is changed", x.count(1), 3);
        fraction("nothing is changed", x.sum(false), x.sum(true), 266, 3);
    }

    // promise 24
    private static void even() {
        SeatRacing x = with(5, 1, 2, 9, 0, 2, 4, -9, 0, 8, 1, 4, 0, 8, 16, 4, 0);
        // Strengths 9, 0, 9, 13, 9: 0 and 2 are even, and 0 and 4, and 2 and 4.
        due("even(1, 0)", x.even(1, 0), 1);
        due("even(1, 1)", x.even(1, 1), 4);
        // 0 and 2 have 18, 3 and 4 have 22; no two pairs are nearer, three are as near.
        due("even(2, 0)", x.even(2, 0), 5);
        due("even(2, 1)", x.even(2, 1), 24);
        due("even(3, 0)", x.even(3, 0), -1);
        due("even(0, 0)", x.even(0, 0), -1);
        due("even(1, 2)", x.even(1, 2), -1);
        for (int wrong : WRONG) {
            due("even(" + wrong + ", 0)", x.even(wrong, 0), -1);
            due("even(1, " + wrong + ")", x.even(1, wrong), -1);
        }
        SeatRacing pairs = with(4, 6, 9, 5, 0);
        due("one is known; the least rower is in A", pairs.even(2, 0), 9);
        due("one is known", pairs.even(2, 1), 6);
        due("no couple is known", pairs.even(1, 0), -1);
        due("no race", with(4).even(2, 0), -1);
        SeatRacing size = with(3, 1, 2, -3, 0, 1, 4, 4, 0);
        due("least in size", size.even(1, 0), 1);
        due("least in size", size.even(1, 1), 2);
    }

    /** Twelve races whose numbers are as large as they can be; the fractions still are exact. */
    private static void largeNumbers() {
        SeatRacing x = with(2);
        for (int race = 0; race < 12; race++) {
            x.race(1, 2, race % 2 == 0 ? 999 : -999, race % 3 - 1);
        }
        fraction("sum", x.sum(false), x.sum(true), 11976012, 1);
        fraction("difference", x.difference(0, 1, false), x.difference(0, 1, true), 0, 1);
        x.strike(11);
        fraction("sum", x.sum(false), x.sum(true), 203592204, 19);
    }
}
