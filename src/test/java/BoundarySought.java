/** Promises 19 to 24: what is looked for. */
final class BoundarySought {
    private static final long NO = Scenes.NO;

    private BoundarySought() {
    }

    static void all() {
        suit();
        suitNoneSuch();
        suitOneAndTheSame();
        swapsCounted();
        swapsMean();
        swapsNoneSuch();
        swapsNoSwap();
        swapsOfAnother();
        next();
        nextWithoutMatch();
        nextOfAnother();
        fewest();
        fewestNever();
        fewestNoSize();
        odd();
        oddWithoutRaces();
        oddOfAnother();
        even();
        evenNone();
        evenOfAnother();
        askingChangesNothing();
    }

    private static void due(String call, long got, long want) {
        Check.due(call, got, want);
    }

    private static SeatRacing with(int rowers, int... races) {
        return Scenes.with(rowers, races);
    }

    private static void suit() {
        Doc.promise(19, "SUIT of two ROWERS.");
        SeatRacing x = with(6, 7, 56, 10, 0, 7, 56, 4, 0, 7, 56, 4, 0, 1, 2, 5, 0, 1, 2, 8, 0);
        // The rests of the first three are 4, -2, -2; together 0. Of the others none has two in a boat.
        Check.fraction("three in A", x.suit(0, 2, false), x.suit(0, 2, true), 0, 1);
        SeatRacing y = with(4, 1, 2, 0, 0, 4, 8, 0, 0, 1, 4, 0, 0, 3, 12, 8, 0);
        Check.fraction("0 and 1", y.suit(0, 1, false), y.suit(0, 1, true), 8, 7);
        Check.fraction("1 and 0", y.suit(1, 0, false), y.suit(1, 0, true), 8, 7);
        Check.fraction("2 and 3", y.suit(2, 3, false), y.suit(2, 3, true), -8, 7);
        Check.fraction("3 and 2", y.suit(3, 2, false), y.suit(3, 2, true), -8, 7);
        Check.fraction("without races", with(2).suit(0, 1, false), with(2).suit(1, 0, true), 0, 1);
        Check.fraction("the last two", with(6).suit(4, 5, false), with(6).suit(5, 4, true), 0, 1);
    }

    private static void suitRefused(Scenes.Scene scene, int i, int j) {
        Scenes.refused(scene, "suit(" + i + ", " + j + ")", x -> x.suit(i, j, false), NO);
        Scenes.refused(scene, "suit(" + i + ", " + j + "), lower", x -> x.suit(i, j, true), NO);
    }

    private static void suitNoneSuch() {
        Doc.promise(19, "NO_NUMBER: there are none such,");
        suitRefused(Scenes::busy, 6, 0);
        suitRefused(Scenes::busy, 0, 6);
        suitRefused(Scenes::busy, -1, 0);
        suitRefused(Scenes::busy, 0, -1);
        suitRefused(Scenes::busy, 6, 7);
        suitRefused(Scenes::fresh, 0, 1);
        suitRefused(() -> with(1), 0, 1);
        for (int far : Scenes.FAR) {
            due("suit(" + far + ", 0)", Scenes.busy().suit(far, 0, false), NO);
            due("suit(0, " + far + ")", Scenes.busy().suit(0, far, true), NO);
        }
    }

    private static void suitOneAndTheSame() {
        Doc.promise(19, "one and the same.");
        for (int i = -1; i <= 6; i++) {
            suitRefused(Scenes::busy, i, i);
        }
        suitRefused(() -> with(1), 0, 0);
        suitRefused(Scenes::fresh, 0, 0);
    }

    private static void swapsCounted() {
        Doc.promise(20, "How many SWAPS of i and j (what 0),");
        due("none", with(2).swaps(0, 1, 0), 0);
        due("none", Scenes.duel(1, 2, 3).swaps(0, 1, 0), 0);
        due("one", with(2, 1, 2, 0, 0, 2, 1, 0, 0).swaps(0, 1, 0), 1);
        SeatRacing most = with(6);
        for (int race = 0; race < 12; race++) {
            most.race(race % 2 == 0 ? 49 : 50, race % 2 == 0 ? 14 : 13, race, 1);
        }
        due("six of the one, six of the other", most.swaps(0, 1, 0), 36);
        due("the other way", most.swaps(1, 0, 0), 36);
        due("those who stay", most.swaps(4, 2, 0), 0);
    }

    private static void swapsMean() {
        Doc.promise(20, "the mean of what they tell: its upper (1), its lower number (2).");
        SeatRacing one = with(2, 1, 2, 10, 0, 2, 1, 4, 0);
        Check.fraction("of one", one.swaps(0, 1, 1), one.swaps(0, 1, 2), 3, 1);
        SeatRacing three = with(2, 1, 2, 10, 0, 2, 1, 4, 0, 2, 1, 5, 0, 2, 1, 5, 0);
        Check.fraction("of three", three.swaps(0, 1, 1), three.swaps(0, 1, 2), 8, 3);
        Check.fraction("the other way", three.swaps(1, 0, 1), three.swaps(1, 0, 2), -8, 3);
        SeatRacing zero = with(2, 1, 2, 10, 0, 2, 1, 4, 0, 2, 1, 16, 0);
        Check.fraction("of 0", zero.swaps(0, 1, 1), zero.swaps(0, 1, 2), 0, 1);
        SeatRacing most = with(2);
        for (int race = 0; race < 12; race++) {
            most.race(race % 2 == 0 ? 1 : 2, race % 2 == 0 ? 2 : 1, race % 2 == 0 ? 999 : -999, -1);
        }
        Check.fraction("the most", most.swaps(0, 1, 1), most.swaps(0, 1, 2), 999, 1);
        SeatRacing minusOne = with(2, 1, 2, 4, 0, 2, 1, 6, 0);
        Check.fraction("-1 is a number", minusOne.swaps(0, 1, 1), minusOne.swaps(0, 1, 2), -1, 1);
    }

    private static void swapsRefused(Scenes.Scene scene, int i, int j, int what) {
        Scenes.refused(scene, "swaps(" + i + ", " + j + ", " + what + ")", x -> x.swaps(i, j, what), NO);
    }

    private static void swapsNoneSuch() {
        Doc.promise(20, "NO_NUMBER: there are none such (one and the same, too),");
        for (int what = 0; what < 3; what++) {
            swapsRefused(Scenes::busy, 6, 0, what);
            swapsRefused(Scenes::busy, 0, 6, what);
            swapsRefused(Scenes::busy, -1, 2, what);
            swapsRefused(Scenes::busy, 2, -1, what);
            swapsRefused(Scenes::fresh, 0, 1, what);
            for (int i = -1; i <= 6; i++) {
                swapsRefused(Scenes::busy, i, i, what);
            }
            for (int far : Scenes.FAR) {
                due("swaps(" + far + ", 0)", Scenes.busy().swaps(far, 0, what), NO);
                due("swaps(0, " + far + ")", Scenes.busy().swaps(0, far, what), NO);
            }
        }
    }

    private static void swapsNoSwap() {
        Doc.promise(20, "no SWAP (1, 2),");
        swapsRefused(Scenes::busy, 0, 5, 1);
        swapsRefused(Scenes::busy, 0, 5, 2);
        due("but how many, that is told", Scenes.busy().swaps(0, 5, 0), 0);
        due("and where there is one", Scenes.busy().swaps(0, 2, 1) == NO ? 1 : 0, 0);
        swapsRefused(() -> with(2), 0, 1, 1);
        swapsRefused(() -> with(2), 1, 0, 2);
    }

    private static void swapsOfAnother() {
        Doc.promise(20, "another what.");
        swapsRefused(Scenes::busy, 0, 2, -1);
        swapsRefused(Scenes::busy, 0, 2, 3);
        swapsRefused(Scenes::busy, 0, 5, 3);
        for (int far : Scenes.FAR) {
            due("swaps(0, 2, " + far + ")", Scenes.busy().swaps(0, 2, far), NO);
        }
    }

    private static void nextIs(SeatRacing x, int k, long... wanted) {
        for (int what = 0; what < 5; what++) {
            due("next(" + k + ", " + what + ")", x.next(k, what), wanted[what]);
        }
    }

    private static void next() {
        Doc.promise(21, "NEXT of size k, what 0: A, 1: B, 2: how many DIFFERENCES would be KNOWN, "
            + "3: the sum of DOUBTS: its upper, 4: its lower number.");
        nextIs(with(2), 1, 1, 2, 1, 1, 1);
        nextIs(with(4), 2, 3, 12, 0, 0, 1);
        nextIs(with(6), 3, 7, 56, 0, 0, 1);
        nextIs(with(4, 3, 12, 1, 0), 2, 5, 10, 2, 1, 1);
        nextIs(with(3, 1, 2, 5, 0, 2, 4, 5, 0, 4, 1, 5, 0, 1, 2, 5, 0, 2, 4, 5, 0), 1, 1, 4, 3, 1, 1);
        SeatRacing full = with(3);
        for (int race = 0; race < 12; race++) {
            full.race(1, 2, race, 0);
        }
        nextIs(full, 1, 1, 4, 3, 13, 6);
        due("it is no race yet", full.count(1), 12);
    }

    private static void nextWithoutMatch() {
        Doc.promise(21, "NONE: there is no such MATCH,");
        for (int what = 0; what < 5; what++) {
            int asked = what;
            for (int k = 1; k <= 3; k++) {
                int size = k;
                Scenes.refused(() -> with(2 * size - 1), "next(" + k + ") of " + (2 * k - 1), x -> x.next(size, asked), -1);
                due("next(" + k + ") of " + 2 * k, with(2 * k).next(k, what) >= 0 ? 1 : 0, 1);
            }
            Scenes.refused(Scenes::fresh, "next(1) of none", x -> x.next(1, asked), -1);
            Scenes.refused(Scenes::busy, "next(0)", x -> x.next(0, asked), -1);
            Scenes.refused(Scenes::busy, "next(4)", x -> x.next(4, asked), -1);
            Scenes.refused(Scenes::busy, "next(-1)", x -> x.next(-1, asked), -1);
            for (int far : Scenes.FAR) {
                due("next(" + far + ")", Scenes.busy().next(far, what), -1);
            }
        }
    }

    private static void nextOfAnother() {
        Doc.promise(21, "another what.");
        Scenes.refused(Scenes::busy, "next(1, -1)", x -> x.next(1, -1), -1);
        Scenes.refused(Scenes::busy, "next(1, 5)", x -> x.next(1, 5), -1);
        for (int far : Scenes.FAR) {
            due("next(2, " + far + ")", Scenes.busy().next(2, far), -1);
        }
    }

    private static void fewest() {
        Doc.promise(22, "FEWEST of size k.");
        for (int k = 1; k <= 3; k++) {
            due("none of " + 2 * k + " known", with(2 * k).fewest(k), 2 * k - 1);
        }
        due("without rowers", Scenes.fresh().fewest(1), 0);
        due("one rower", with(1).fewest(1), 0);
        due("all known", Scenes.duel(5).fewest(1), 0);
        due("all known, though two of each can't be", Scenes.duel(5).fewest(2), 0);
        due("with twelve races that tell little", Scenes.full().fewest(1), 0);
        SeatRacing full = with(6);
        for (int race = 0; race < 12; race++) {
            full.race(1, 2, race, 0);
        }
        due("to come behind the twelve", full.fewest(1), 4);
        due("of two", full.fewest(2), 4);
        due("of three", full.fewest(3), 4);
        due("no race more", full.count(1), 12);
    }

    private static void fewestNever() {
        Doc.promise(22, "NONE: never,");
        for (int k = 1; k <= 3; k++) {
            for (int n = 2; n < 2 * k; n++) {
                int size = k;
                int rowers = n;
                Scenes.refused(() -> with(rowers), "fewest(" + k + ") of " + n, x -> x.fewest(size), -1);
            }
            due("fewest(" + k + ") of " + 2 * k, with(2 * k).fewest(k), 2 * k - 1);
        }
        Scenes.refused(() -> with(5, 1, 2, 3, 0), "fewest(3) of 5, one known", x -> x.fewest(3), -1);
        Scenes.refused(() -> with(3, 1, 2, 3, 1), "fewest(2) of 3", x -> x.fewest(2), -1);
    }

    private static void fewestNoSize() {
        Doc.promise(22, "no such size.");
        for (int k : new int[] {0, 4, -1, 5}) {
            Scenes.refused(Scenes::busy, "fewest(" + k + ")", x -> x.fewest(k), -1);
            Scenes.refused(Scenes::fresh, "fewest(" + k + ") of none", x -> x.fewest(k), -1);
            due("fewest(" + k + "), all known", Scenes.duel(5).fewest(k), -1);
        }
        for (int far : Scenes.FAR) {
            due("fewest(" + far + ")", Scenes.busy().fewest(far), -1);
            due("fewest(" + far + ")", Scenes.fresh().fewest(far), -1);
        }
    }

    private static void oddIs(SeatRacing x, long... wanted) {
        for (int what = 0; what < 3; what++) {
            due("odd(" + what + ")", x.odd(what), wanted[what]);
        }
    }

    private static void odd() {
        Doc.promise(23, "The ODD RACE (what 0), SUM without it: its upper (1), its lower number (2).");
        oddIs(Scenes.duel(999), 0, 0, 1);
        oddIs(Scenes.duel(1, 2, 20), 2, 1, 2);
        oddIs(Scenes.duel(0, 0, 0, 0, 0, 0, 0, 0, 0, 0, 0, 7), 11, 0, 1);
        oddIs(Scenes.duel(7, 0, 0, 0, 0, 0, 0, 0, 0, 0, 0, 0), 0, 0, 1);
        // Of those with 999 the first: six of -999 and five of 999 are left.
        oddIs(Scenes.duel(999, -999, 999, -999, 999, -999, 999, -999, 999, -999, 999, -999), 0, 119760120, 11);
        // A race that is known by none of the others has no part in the sum.
        oddIs(with(4, 4, 8, 50, 0, 1, 2, 5, 0, 1, 2, 6, 0, 1, 2, 9, 0), 3, 1, 2);
    }

    private static void oddWithoutRaces() {
        Doc.promise(23, "NONE: there are no RACES,");
        for (int what = 0; what < 3; what++) {
            int asked = what;
            Scenes.refused(Scenes::fresh, "odd(" + what + ")", x -> x.odd(asked), -1);
            Scenes.refused(() -> with(6), "odd(" + what + ")", x -> x.odd(asked), -1);
        }
        SeatRacing x = Scenes.duel(5);
        due("of one", x.odd(0), 0);
        due("strike", x.strike(0), 0);
        due("of none any more", x.odd(0), -1);
    }

    private static void oddOfAnother() {
        Doc.promise(23, "another what.");
        Scenes.refused(Scenes::busy, "odd(-1)", x -> x.odd(-1), -1);
        Scenes.refused(Scenes::busy, "odd(3)", x -> x.odd(3), -1);
        for (int far : Scenes.FAR) {
            due("odd(" + far + ")", Scenes.busy().odd(far), -1);
        }
    }

    private static void evenIs(SeatRacing x, int k, int a, int b) {
        due("even(" + k + ", 0)", x.even(k, 0), a);
        due("even(" + k + ", 1)", x.even(k, 1), b);
    }

    private static void even() {
        Doc.promise(24, "EVEN CREWS of size k, what 0: A, 1: B.");
        evenIs(Scenes.duel(999), 1, 1, 2);
        evenIs(with(6, 32, 16, 5, 0), 1, 16, 32);
        evenIs(with(4, 6, 9, 5, 0), 2, 9, 6);
        evenIs(with(6, 56, 7, 5, 0), 3, 7, 56);
        // Strengths 0, 1, 3, 7, 15, 31: nearest are 0 and 1; 0 3 and 1 2 (7, 4); 0 1 5 and 2 3 4 (32, 25).
        SeatRacing x = with(6, 2, 1, 1, 0, 4, 2, 2, 0, 8, 4, 4, 0, 16, 8, 8, 0, 32, 16, 16, 0);
        evenIs(x, 1, 1, 2);
        evenIs(x, 2, 9, 6);
        evenIs(x, 3, 35, 28);
    }

    private static void evenNone() {
        Doc.promise(24, "NONE: there are none,");
        for (int what = 0; what < 2; what++) {
            int asked = what;
            for (int k = 1; k <= 3; k++) {
                int size = k;
                Scenes.refused(() -> with(2 * size), "even(" + k + "), none known", x -> x.even(size, asked), -1);
                Scenes.refused(() -> with(2 * size - 1), "even(" + k + "), too few", x -> x.even(size, asked), -1);
            }
            Scenes.refused(() -> with(5, 1, 2, 3, 0, 2, 4, 3, 0), "even(3) of 5", x -> x.even(3, asked), -1);
            Scenes.refused(Scenes::busy, "even(0)", x -> x.even(0, asked), -1);
            Scenes.refused(Scenes::busy, "even(4)", x -> x.even(4, asked), -1);
            Scenes.refused(Scenes::fresh, "even(0) of none", x -> x.even(0, asked), -1);
            Scenes.refused(() -> with(4, 3, 12, 5, 1), "even(2), hidden by the stream", x -> x.even(2, asked), -1);
            for (int far : Scenes.FAR) {
                due("even(" + far + ")", Scenes.busy().even(far, what), -1);
            }
        }
    }

    private static void evenOfAnother() {
        Doc.promise(24, "another what.");
        Scenes.refused(Scenes::full, "even(1, -1)", x -> x.even(1, -1), -1);
        Scenes.refused(Scenes::full, "even(1, 2)", x -> x.even(1, 2), -1);
        for (int far : Scenes.FAR) {
            due("even(1, " + far + ")", Scenes.full().even(1, far), -1);
        }
    }

    /** Nothing is promised to change by what is asked. */
    private static void askingChangesNothing() {
        Doc.face("Nothing is promised beyond the answers and state changes described above");
        for (Scenes.Scene scene : new Scenes.Scene[] {Scenes::fresh, Scenes::busy, Scenes::full}) {
            for (int k = 1; k <= 3; k++) {
                int size = k;
                Scenes.asked(scene, "next", x -> x.next(size, 4));
                Scenes.asked(scene, "fewest", x -> x.fewest(size));
                Scenes.asked(scene, "even", x -> x.even(size, 1));
            }
            Scenes.asked(scene, "odd", x -> x.odd(2));
            Scenes.asked(scene, "suit", x -> x.suit(0, 1, true));
            Scenes.asked(scene, "swaps", x -> x.swaps(0, 2, 2));
            Scenes.asked(scene, "rank", x -> x.rank(0, 1));
            Scenes.asked(scene, "count", x -> x.count(5));
            Scenes.asked(scene, "raced", x -> Scenes.raced(x, 0, 0));
            Scenes.asked(scene, "fault", x -> x.fault(0));
            Scenes.asked(scene, "rest", x -> x.rest(0, true));
            Scenes.asked(scene, "sum", x -> x.sum(true));
            Scenes.asked(scene, "drift", x -> x.drift(true));
            Scenes.asked(scene, "doubt", x -> x.doubt(0, 1, true));
            Scenes.asked(scene, "difference", x -> x.difference(0, 1, true));
        }
    }
}
