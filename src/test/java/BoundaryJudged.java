/** Promises 12 to 18: what the races tell. */
final class BoundaryJudged {
    private static final long NO = Scenes.NO;

    private BoundaryJudged() {
    }

    static void all() {
        upperAndLower();
        noneSuch();
        notKnown();
        difference();
        doubt();
        drift();
        rest();
        sum();
        guess();
        guessDoubts();
        guessCrews();
        guessStreams();
        rankAhead();
        rankSurely();
        rankSurelyBehind();
        rankGroup();
        rankNoneSuch();
        rankOfAnother();
        greatest();
    }

    private static void due(String call, long got, long want) {
        Check.due(call, got, want);
    }

    private static SeatRacing with(int rowers, int... races) {
        return Scenes.with(rowers, races);
    }

    /** Refused with under and without. */
    private static void none(Scenes.Scene scene, String call, Scenes.Call upper, Scenes.Call lower) {
        Scenes.refused(scene, call + ", upper", upper, NO);
        Scenes.refused(scene, call + ", lower", lower, NO);
    }

    private static void upperAndLower() {
        Doc.face("---- what the races tell (upper number, or with under the lower one;");
        SeatRacing x = Scenes.duel(3, 4);
        Check.fraction("difference", x.difference(0, 1, false), x.difference(0, 1, true), 7, 2);
        Check.fraction("doubt", x.doubt(0, 1, false), x.doubt(0, 1, true), 1, 2);
        Check.fraction("rest", x.rest(1, false), x.rest(1, true), 1, 2);
        Check.fraction("sum", x.sum(false), x.sum(true), 1, 2);
        Check.fraction("guess", x.guess(2, 1, 0, false, false), x.guess(2, 1, 0, false, true), -7, 2);
        Check.fraction("its doubt", x.guess(2, 1, 0, true, false), x.guess(2, 1, 0, true, true), 1, 2);
        x.race(1, 2, 1, 1);
        Check.fraction("drift", x.drift(false), x.drift(true), -5, 2);
    }

    private static void noneSuch() {
        Doc.face("NO_NUMBER: there are none such,");
        // Of six rowers each number just outside, on either side of the couple, even with itself.
        int[][] couples = {{-1, 0}, {0, -1}, {6, 0}, {0, 6}, {-1, -1}, {6, 6}, {6, -1}};
        for (int[] c : couples) {
            String two = "(" + c[0] + ", " + c[1] + ")";
            none(Scenes::busy, "difference" + two, x -> x.difference(c[0], c[1], false), x -> x.difference(c[0], c[1], true));
            none(Scenes::busy, "doubt" + two, x -> x.doubt(c[0], c[1], false), x -> x.doubt(c[0], c[1], true));
        }
        for (int far : Scenes.FAR) {
            SeatRacing x = Scenes.busy();
            for (boolean under : new boolean[] {false, true}) {
                due("difference(" + far + ", 0)", x.difference(far, 0, under), NO);
                due("difference(0, " + far + ")", x.difference(0, far, under), NO);
                due("difference(" + far + ", " + far + ")", x.difference(far, far, under), NO);
                due("doubt(" + far + ", 0)", x.doubt(far, 0, under), NO);
                due("doubt(0, " + far + ")", x.doubt(0, far, under), NO);
                due("doubt(" + far + ", " + far + ")", x.doubt(far, far, under), NO);
                due("rest(" + far + ")", x.rest(far, under), NO);
            }
        }
        none(Scenes::fresh, "difference(0, 0) of none", x -> x.difference(0, 0, false), x -> x.difference(0, 0, true));
        none(Scenes::fresh, "doubt(0, 0) of none", x -> x.doubt(0, 0, false), x -> x.doubt(0, 0, true));
        none(Scenes::fresh, "rest(0) of none", x -> x.rest(0, false), x -> x.rest(0, true));
        none(Scenes::busy, "rest(7) of 7", x -> x.rest(7, false), x -> x.rest(7, true));
        none(Scenes::full, "rest(12) of 12", x -> x.rest(12, false), x -> x.rest(12, true));
        none(Scenes::full, "rest(-1)", x -> x.rest(-1, false), x -> x.rest(-1, true));
    }

    private static void notKnown() {
        Doc.face("not KNOWN).");
        SeatRacing x = with(4, 1, 2, 5, 1, 4, 8, 5, 0);
        for (boolean under : new boolean[] {false, true}) {
            due("difference", x.difference(0, 1, under), NO);
            due("doubt", x.doubt(0, 1, under), NO);
            due("drift", x.drift(under), NO);
            due("guess", x.guess(1, 2, 0, false, under), NO);
            due("its doubt", x.guess(1, 2, 0, true, under), NO);
            due("of two groups", x.difference(1, 2, under), NO);
        }
        due("and one that is", x.difference(2, 3, false), 5);
        x.race(2, 1, 5, 1);
        due("known by one race more", x.difference(0, 1, false), 0);
        due("the drift, too", x.drift(false), 5);
        due("strike", x.strike(2), 2);
        due("and not without it", x.difference(0, 1, false), NO);
    }

    private static void difference() {
        Doc.promise(12, "VALUE of the DIFFERENCE of two ROWERS.");
        SeatRacing x = with(6, 1, 32, 999, 0, 32, 2, 999, 0);
        Check.fraction("the first and the last", x.difference(0, 5, false), x.difference(0, 5, true), 999, 1);
        Check.fraction("more than a margin can be", x.difference(0, 1, false), x.difference(0, 1, true), 1998, 1);
        Check.fraction("the other way", x.difference(1, 0, false), x.difference(1, 0, true), -1998, 1);
        for (int rower = 0; rower < 6; rower++) {
            Check.fraction("with himself", x.difference(rower, rower, false), x.difference(rower, rower, true), 0, 1);
        }
        due("one who was in no race", x.difference(0, 2, false), NO);
    }

    private static void doubt() {
        Doc.promise(13, "DOUBT of the DIFFERENCE of two ROWERS.");
        SeatRacing x = with(6, 1, 2, 0, 0, 2, 4, 0, 0, 4, 8, 0, 0, 8, 16, 0, 0, 16, 32, 0, 0);
        for (int rower = 0; rower < 6; rower++) {
            Check.fraction("0 and " + rower, x.doubt(0, rower, false), x.doubt(0, rower, true), rower, 1);
            Check.fraction(rower + " and 0", x.doubt(rower, 0, false), x.doubt(rower, 0, true), rower, 1);
        }
        SeatRacing twelve = Scenes.duel(1, 2, 3, 4, 5, 6, 7, 8, 9, 10, 11, 12);
        Check.fraction("twelve races", twelve.doubt(0, 1, false), twelve.doubt(0, 1, true), 1, 12);
        Check.fraction("with himself, in no race", with(1).doubt(0, 0, false), with(1).doubt(0, 0, true), 0, 1);
        due("one who was in no race", with(3, 1, 2, 0, 0).doubt(0, 2, false), NO);
    }

    private static void drift() {
        Doc.promise(14, "DRIFT.");
        due("without rowers", Scenes.fresh().drift(false), NO);
        due("without races", with(6).drift(true), NO);
        due("without the stream", Scenes.duel(5, 6).drift(false), NO);
        due("the stream once", with(2, 1, 2, 5, 1).drift(false), NO);
        due("the stream ever on one side", with(2, 1, 2, 5, 1, 2, 1, -5, -1).drift(false), NO);
        SeatRacing x = with(2, 1, 2, 999, 1, 1, 2, -999, -1);
        Check.fraction("the most", x.drift(false), x.drift(true), 999, 1);
        SeatRacing y = with(2, 1, 2, -999, 1, 1, 2, 999, 0);
        Check.fraction("more", y.drift(false), y.drift(true), -1998, 1);
        SeatRacing z = with(2, 1, 2, 4, 1, 2, 1, 5, 1);
        Check.fraction("a half", z.drift(false), z.drift(true), 9, 2);
        SeatRacing zero = with(2, 1, 2, 4, 1, 2, 1, -4, 1);
        Check.fraction("none at all", zero.drift(false), zero.drift(true), 0, 1);
    }

    private static void rest() {
        Doc.promise(15, "REST of a RACE.");
        SeatRacing x = Scenes.duel(12, 0, 0, 0, 0, 0, 0, 0, 0, 0, 0, 1);
        Check.fraction("the first", x.rest(0, false), x.rest(0, true), 131, 12);
        Check.fraction("the last of twelve", x.rest(11, false), x.rest(11, true), -1, 12);
        Check.fraction("one between", x.rest(5, false), x.rest(5, true), -13, 12);
        due("the 13th", x.rest(12, false), NO);
        Check.fraction("a single one", Scenes.duel(-999).rest(0, false), Scenes.duel(-999).rest(0, true), 0, 1);
        SeatRacing most = Scenes.duel(999, -999);
        Check.fraction("the most", most.rest(0, false), most.rest(0, true), 999, 1);
        Check.fraction("the least", most.rest(1, false), most.rest(1, true), -999, 1);
    }

    private static void sum() {
        Doc.promise(16, "SUM.");
        Check.fraction("without rowers", Scenes.fresh().sum(false), Scenes.fresh().sum(true), 0, 1);
        Check.fraction("without races", with(6).sum(false), with(6).sum(true), 0, 1);
        Check.fraction("of one", Scenes.duel(999).sum(false), Scenes.duel(999).sum(true), 0, 1);
        Check.fraction("of two", Scenes.duel(0, 1).sum(false), Scenes.duel(0, 1).sum(true), 1, 2);
        SeatRacing most = Scenes.duel(999, -999, 999, -999, 999, -999, 999, -999, 999, -999, 999, -999);
        Check.fraction("the most there can be", most.sum(false), most.sum(true), 12L * 999 * 999, 1);
        most.strike(0);
        Check.fraction("nearly the most", most.sum(false), most.sum(true), 119760120, 11);
    }

    private static void guess() {
        Doc.promise(17, "What a RACE would bring: VALUE of its FORM");
        SeatRacing x = with(6, 7, 56, 999, 1, 7, 56, -999, 0);
        due("three against three", x.guess(7, 56, 1, false, false), 999);
        due("without the stream", x.guess(7, 56, 0, false, false), -999);
        due("B has the stream", x.guess(7, 56, -1, false, false), -2997);
        due("the boats turned", x.guess(56, 7, 1, false, false), 2997);
        due("not known", x.guess(3, 24, 0, false, false), NO);
        due("no race more", x.count(1), 2);
        due("also with twelve there", Scenes.full().guess(1, 2, 0, true, true) > 0 ? 1 : 0, 1);
        Scenes.asked(Scenes::busy, "guess", y -> y.guess(3, 12, 1, true, false));
    }

    private static void guessDoubts() {
        Doc.promise(17, "(doubts: its DOUBT).");
        SeatRacing x = with(6, 7, 56, 999, 1, 7, 56, -999, 0);
        Check.fraction("a race that was", x.guess(7, 56, 1, true, false), x.guess(7, 56, 1, true, true), 1, 1);
        Check.fraction("turned", x.guess(56, 7, -1, true, false), x.guess(56, 7, -1, true, true), 1, 1);
        Check.fraction("twice the one less the other", x.guess(7, 56, -1, true, false), x.guess(7, 56, -1, true, true), 5, 1);
        due("not known", x.guess(3, 24, 0, true, false), NO);
        x.race(56, 7, 3, 0);
        Check.fraction("by halves", x.guess(7, 56, 0, true, false), x.guess(7, 56, 0, true, true), 1, 2);
    }

    private static void guessRefused(int a, int b, int stream) {
        String call = "guess(" + a + ", " + b + ", " + stream + ")";
        none(Scenes::busy, call, x -> x.guess(a, b, stream, false, false), x -> x.guess(a, b, stream, false, true));
        none(Scenes::busy, call + ", doubts", x -> x.guess(a, b, stream, true, false), x -> x.guess(a, b, stream, true, true));
    }

    private static void guessCrews() {
        Doc.promise(17, "Also NO_NUMBER: CREWS,");
        // Each crew of six with all differences known: a number just where they can row.
        SeatRacing x = null;
        for (int a = -1; a <= 64; a++) {
            for (int b = -1; b <= 64; b++) {
                if (x == null || (a * 66 + b) % 250 == 0) {
                    x = with(6, 1, 2, 1, 0, 2, 4, 1, 0, 4, 8, 1, 0, 8, 16, 1, 0, 16, 32, 1, 0);
                }
                boolean can = a > 0 && b > 0 && a < 64 && b < 64 && (a & b) == 0
                    && Integer.bitCount(a) == Integer.bitCount(b);
                due("guess(" + a + ", " + b + ")", x.guess(a, b, 0, false, true), can ? 1 : NO);
            }
        }
        int[][] wrong = {
            {0, 0}, {1, 0}, {0, 1}, {1, 1}, {3, 4}, {4, 3}, {3, 6}, {64, 1}, {1, 64}, {15, 48}, {-1, -1},
            {Integer.MIN_VALUE, 1}, {1, Integer.MIN_VALUE}, {Integer.MAX_VALUE, Integer.MAX_VALUE},
        };
        for (int[] w : wrong) {
            guessRefused(w[0], w[1], 0);
        }
        due("without rowers", Scenes.fresh().guess(0, 0, 0, false, false), NO);
        due("without rowers", Scenes.fresh().guess(1, 2, 0, false, false), NO);
    }

    private static void guessStreams() {
        Doc.promise(17, "STREAM that can't be.");
        SeatRacing x = with(2, 1, 2, 5, 1, 1, 2, 4, 0);
        due("-1", x.guess(1, 2, -1, false, false), 3);
        due("0", x.guess(1, 2, 0, false, false), 4);
        due("1", x.guess(1, 2, 1, false, false), 5);
        due("2", x.guess(1, 2, 2, false, false), NO);
        due("-2", x.guess(1, 2, -2, false, false), NO);
        guessRefused(1, 2, 2);
        guessRefused(1, 2, -2);
        guessRefused(1, 2, Integer.MIN_VALUE);
        guessRefused(1, 2, Integer.MAX_VALUE);
    }

    /** Strengths 31, 20, 20, 9 of 0 to 3 in a row; 4 and 5 apart. */
    private static SeatRacing row() {
        return with(6, 1, 2, 11, 0, 2, 4, 0, 0, 4, 8, 11, 0, 16, 32, 10, 0);
    }

    private static void ranks(SeatRacing x, int what, int... wanted) {
        for (int rower = 0; rower < wanted.length; rower++) {
            due("rank(" + rower + ", " + what + ")", x.rank(rower, what), wanted[rower]);
        }
    }

    private static void rankAhead() {
        Doc.promise(18, "Of a ROWER, what 0: how many are AHEAD of him,");
        ranks(row(), 0, 0, 1, 1, 3, 0, 1);
        ranks(with(6), 0, 0, 0, 0, 0, 0, 0);
        ranks(with(6, 1, 2, 1, 0, 2, 4, 1, 0, 4, 8, 1, 0, 8, 16, 1, 0, 16, 32, 1, 0), 0, 0, 1, 2, 3, 4, 5);
        ranks(with(1), 0, 0);
    }

    private static void rankSurely() {
        Doc.promise(18, "1: SURELY,");
        // 0 and 2: 11 by a doubt of 2; 0 and 3: 22 by 3; 4 and 5: 10 by 1.
        ranks(row(), 1, 0, 1, 0, 1, 0, 0);
        SeatRacing low = row();
        low.limit(1);
        ranks(low, 1, 0, 1, 1, 3, 0, 1);
        SeatRacing high = row();
        high.limit(11);
        ranks(high, 1, 0, 0, 0, 0, 0, 0);
        ranks(with(3, 2, 1, 11, 0, 4, 2, 11, 0), 1, 2, 1, 0);
        ranks(with(6, 32, 1, 11, 0), 1, 1, 0, 0, 0, 0, 0);
    }

    private static void rankSurelyBehind() {
        Doc.promise(18, "2: of how many he is AHEAD SURELY,");
        ranks(row(), 2, 1, 0, 1, 0, 0, 0);
        SeatRacing low = row();
        low.limit(1);
        ranks(low, 2, 3, 1, 1, 0, 1, 0);
        SeatRacing nine = row();
        nine.limit(9);
        ranks(nine, 2, 1, 0, 1, 0, 1, 0);
        ranks(with(6), 2, 0, 0, 0, 0, 0, 0);
        ranks(with(3, 2, 1, 11, 0, 4, 2, 11, 0), 2, 0, 1, 2);
        ranks(with(6, 32, 1, 11, 0), 2, 0, 0, 0, 0, 0, 1);
    }

    private static void rankGroup() {
        Doc.promise(18, "3: his GROUP (bits).");
        ranks(row(), 3, 15, 15, 15, 15, 48, 48);
        ranks(with(6), 3, 1, 2, 4, 8, 16, 32);
        ranks(with(6, 1, 2, 1, 0, 2, 4, 1, 0, 4, 8, 1, 0, 8, 16, 1, 0, 16, 32, 1, 0), 3, 63, 63, 63, 63, 63, 63);
    }

    private static void rankNoneSuch() {
        Doc.promise(18, "NONE: there is none such,");
        for (int what = 0; what < 4; what++) {
            int asked = what;
            Scenes.refused(Scenes::busy, "rank(6, " + what + ") of 6", x -> x.rank(6, asked), -1);
            Scenes.refused(Scenes::full, "rank(3, " + what + ") of 3", x -> x.rank(3, asked), -1);
            Scenes.refused(Scenes::fresh, "rank(0, " + what + ") of none", x -> x.rank(0, asked), -1);
            Scenes.refused(Scenes::busy, "rank(-1, " + what + ")", x -> x.rank(-1, asked), -1);
            for (int far : Scenes.FAR) {
                due("rank(" + far + ", " + what + ")", Scenes.busy().rank(far, what), -1);
            }
        }
    }

    private static void rankOfAnother() {
        Doc.promise(18, "another what.");
        Scenes.refused(Scenes::busy, "rank(0, -1)", x -> x.rank(0, -1), -1);
        Scenes.refused(Scenes::busy, "rank(5, 4)", x -> x.rank(5, 4), -1);
        for (int far : Scenes.FAR) {
            due("rank(0, " + far + ")", Scenes.busy().rank(0, far), -1);
            due("rank(" + far + ", " + far + ")", Scenes.busy().rank(far, far), -1);
        }
    }

    /** Races with the greatest numbers that the sums of squares can have; all stays exact. */
    private static void greatest() {
        Doc.promise(16, "SUM.");
        int[] crews = {7, 56, 11, 52, 19, 44, 35, 28, 13, 50, 21, 42, 37, 26, 25, 38, 41, 22, 49, 14, 7, 56, 11, 52};
        SeatRacing x = with(6);
        Reference y = new Reference();
        y.crew(6);
        for (int race = 0; race < 12; race++) {
            int margin = race * 7 % 5 < 2 ? 999 : -999;
            int stream = race * 5 % 3 - 1;
            due("race", x.race(crews[2 * race], crews[2 * race + 1], margin, stream), race);
            y.race(crews[2 * race], crews[2 * race + 1], margin, stream);
        }
        Check.fraction("sum", x.sum(false), x.sum(true), y.sum(false), y.sum(true));
        Check.fraction("drift", x.drift(false), x.drift(true), y.drift(false), y.drift(true));
        for (int race = 0; race < 12; race++) {
            Check.fraction("rest", x.rest(race, false), x.rest(race, true), y.rest(race, false), y.rest(race, true));
        }
        for (int what = 0; what < 3; what++) {
            due("odd(" + what + ")", x.odd(what), y.odd(what));
        }
    }
}
