import java.util.LinkedHashMap;
import java.util.Map;
import java.util.NoSuchElementException;

/** Objects to begin with, all that can be asked of one, and calls that must leave that as it was. */
final class Scenes {
    static final long NO = SeatRacing.NO_NUMBER;
    /** Told where raced() throws a NoSuchElementException. */
    static final long THROWS = Long.MIN_VALUE;
    /** Far outside whatever an index, a size or a what can be. */
    static final int[] FAR = {-2, 13, 31, 32, 64, 1 << 20, Integer.MIN_VALUE, Integer.MIN_VALUE + 1, Integer.MAX_VALUE};

    interface Scene {
        SeatRacing make();
    }

    interface Call {
        long on(SeatRacing x);
    }

    private Scenes() {
    }

    /** So many rowers and these races: a, b, margin, stream of each. */
    static SeatRacing with(int rowers, int... races) {
        SeatRacing x = new SeatRacing();
        Check.due("crew(" + rowers + ")", x.crew(rowers), true);
        for (int i = 0; i + 3 < races.length; i += 4) {
            Check.due("race", x.race(races[i], races[i + 1], races[i + 2], races[i + 3]), i / 4);
        }
        return x;
    }

    /** Two rowers and so many races of theirs, with these margins. */
    static SeatRacing duel(int... margins) {
        SeatRacing x = with(2);
        for (int race = 0; race < margins.length; race++) {
            Check.due("race", x.race(1, 2, margins[race], 0), race);
        }
        return x;
    }

    /** Six rowers, seven races that don't fit, another limit, a fault of the latest text, a text on the tape. */
    static SeatRacing busy() {
        SeatRacing x = with(6, 3, 12, 10, 0, 6, 9, 3, 0, 1, 2, -7, 1, 1, 2, 4, -1, 1, 8, 50, 0, 21, 42, 9, 1, 3, 12, 5, 0);
        Check.due("limit(20)", x.limit(20), true);
        Check.faults(x, "limit 5; crew 3; race 0 0", 3, 24, 2);
        Check.put(x, Check.bytes("limit 7; race 0 1 : 2 3 by 9 up;"));
        return x;
    }

    /** Twelve races, three rowers and some bytes on the tape. */
    static SeatRacing full() {
        SeatRacing x = with(3);
        for (int race = 0; race < 12; race++) {
            Check.due("race", x.race(1 << race % 3, 1 << (race + 1) % 3, 10 * race, race % 2), race);
        }
        Check.put(x, Check.bytes("crew 2;"));
        return x;
    }

    static SeatRacing fresh() {
        return new SeatRacing();
    }

    static long raced(SeatRacing x, int race, int what) {
        try {
            return x.raced(race, what);
        } catch (NoSuchElementException e) {
            return THROWS;
        }
    }

    /** A call that is refused answers so, and leaves all else as it was. */
    static void refused(Scene scene, String call, Call made, long want) {
        SeatRacing x = scene.make();
        Check.due(call, made.on(x), want);
        same(call, picture(x, true), picture(scene.make(), true));
    }

    /** What is only asked changes nothing, whatever it answers. */
    static void asked(Scene scene, String call, Call made) {
        SeatRacing x = scene.make();
        made.on(x);
        same(call, picture(x, true), picture(scene.make(), true));
    }

    static void same(String call, Map<String, Long> got, Map<String, Long> want) {
        Check.due(call + " leaves as many answers", got.size(), want.size());
        for (String asked : want.keySet()) {
            Check.due("behind " + call + ": " + asked, got.getOrDefault(asked, THROWS), want.get(asked));
        }
    }

    /** Some three hundred answers; with the tape, its text is told at the end. */
    static Map<String, Long> picture(SeatRacing x, boolean withTape) {
        Map<String, Long> all = new LinkedHashMap<>();
        int n = x.count(0);
        log(x, all);
        for (int i = 0; i < n; i++) {
            for (int what = 0; what < 4; what++) {
                all.put("rank(" + i + ", " + what + ")", (long) x.rank(i, what));
            }
            for (int j = i + 1; j < n; j++) {
                couple(x, all, i, j);
            }
        }
        sought(x, all);
        if (withTape) {
            all.put("fault(0)", (long) x.fault(0));
            all.put("fault(1)", (long) x.fault(1));
            all.put("count(3)", (long) x.count(3));
            all.put("tell()", (long) x.tell());
            all.put("fault(0) of the tape", (long) x.fault(0));
            all.put("count(0) told", (long) x.count(0));
            all.put("count(1) told", (long) x.count(1));
            all.put("count(2) told", (long) x.count(2));
        }
        return all;
    }

    private static void log(SeatRacing x, Map<String, Long> all) {
        for (int what : new int[] {0, 1, 2, 4, 5, 6}) {
            all.put("count(" + what + ")", (long) x.count(what));
        }
        for (int race = 0; race <= x.count(1) && race < 13; race++) {
            for (int what = 0; what < 4; what++) {
                all.put("raced(" + race + ", " + what + ")", raced(x, race, what));
            }
            all.put("rest(" + race + "), upper", x.rest(race, false));
            all.put("rest(" + race + "), lower", x.rest(race, true));
        }
        all.put("drift, upper", x.drift(false));
        all.put("drift, lower", x.drift(true));
        all.put("sum, upper", x.sum(false));
        all.put("sum, lower", x.sum(true));
    }

    private static void couple(SeatRacing x, Map<String, Long> all, int i, int j) {
        String two = " of " + i + " and " + j;
        all.put("difference" + two, x.difference(i, j, false));
        all.put("difference, lower" + two, x.difference(i, j, true));
        all.put("doubt" + two, x.doubt(i, j, false));
        all.put("doubt, lower" + two, x.doubt(i, j, true));
        all.put("guess" + two, x.guess(1 << i, 1 << j, 1, false, false));
        all.put("suit" + two, x.suit(i, j, false));
        all.put("suit, lower" + two, x.suit(i, j, true));
        for (int what = 0; what < 3; what++) {
            all.put("swaps(" + what + ")" + two, x.swaps(i, j, what));
        }
    }

    private static void sought(SeatRacing x, Map<String, Long> all) {
        for (int k = 1; k <= 3; k++) {
            for (int what = 0; what < 5; what++) {
                all.put("next(" + k + ", " + what + ")", x.next(k, what));
            }
            all.put("fewest(" + k + ")", (long) x.fewest(k));
            all.put("even(" + k + ", 0)", (long) x.even(k, 0));
            all.put("even(" + k + ", 1)", (long) x.even(k, 1));
        }
        for (int what = 0; what < 3; what++) {
            all.put("odd(" + what + ")", x.odd(what));
        }
    }
}
