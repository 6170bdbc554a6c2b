/** Terms 1 and 2: what lies just inside each boundary that they name, and just outside it. */
final class BoundaryTerms {
    private static final long NO = Scenes.NO;

    private BoundaryTerms() {
    }

    static void all() {
        rowers();
        races();
        crews();
        crewsOneByOne();
        margins();
        streams();
        unknowns();
        guesses();
        rests();
        best();
        restsAlike();
        forms();
        known();
        knownWithoutRaces();
        values();
        doubts();
        differences();
        groups();
        ahead();
        surely();
        limits();
        fractions();
        suits();
        swapStreams();
        swapCrews();
        swapTells();
        matches();
        next();
        nextAmongSeveral();
        fewest();
        odd();
        even();
    }

    private static void due(String call, long got, long want) {
        Check.due(call, got, want);
    }

    private static SeatRacing with(int rowers, int... races) {
        return Scenes.with(rowers, races);
    }

    private static void rowers() {
        Doc.term(1, "ROWERS 0 to n - 1 (n 0 to 6; 0 at first).");
        due("n at first", new SeatRacing().count(0), 0);
        due("rower 0 at first", new SeatRacing().rank(0, 3), -1);
        for (int n = 0; n <= 6; n++) {
            SeatRacing x = with(n);
            due("n", x.count(0), n);
            for (int rower = 0; rower < n; rower++) {
                due("rower " + rower + " of " + n, x.rank(rower, 3), 1 << rower);
            }
            due("rower n of " + n, x.rank(n, 3), -1);
            due("rower -1 of " + n, x.rank(-1, 3), -1);
        }
        Scenes.refused(Scenes::busy, "crew(7)", x -> x.crew(7) ? 1 : 0, 0);
        Scenes.refused(Scenes::busy, "crew(-1)", x -> x.crew(-1) ? 1 : 0, 0);
    }

    private static void races() {
        Doc.term(1, "RACES, at most 12, numbered from 0 on:");
        SeatRacing x = with(2);
        due("race -1 of none", Scenes.raced(x, -1, 2), Scenes.THROWS);
        due("race 0 of none", Scenes.raced(x, 0, 2), Scenes.THROWS);
        for (int race = 0; race < 12; race++) {
            due("race", x.race(1, 2, 100 + race, 0), race);
            due("its margin", Scenes.raced(x, race, 2), 100 + race);
            due("one behind it", Scenes.raced(x, race + 1, 2), Scenes.THROWS);
        }
        due("races", x.count(1), 12);
        Scenes.refused(Scenes::full, "a 13th race", y -> y.race(1, 2, 3, 0), -2);
    }

    /** All crews that there are for each n, and some that reach beyond, against the words counted out. */
    private static void crews() {
        Doc.term(1, "CREWS A, B (bits of ROWERS, none in both, as many in both: 1 to 3);");
        for (int n = 0; n <= 6; n++) {
            for (int a = -1; a <= 1 << n; a++) {
                for (int b = -1; b <= 1 << n; b++) {
                    SeatRacing x = new SeatRacing();
                    x.crew(n);
                    due("race(" + a + ", " + b + ", ..) of " + n, x.race(a, b, 0, 0), canRow(n, a, b) ? 0 : -1);
                }
            }
        }
    }

    private static boolean canRow(int n, int a, int b) {
        int inA = 0;
        int inB = 0;
        for (int bit = 0; bit < 32; bit++) {
            boolean isInA = (a >>> bit & 1) == 1;
            boolean isInB = (b >>> bit & 1) == 1;
            if (isInA && isInB || (isInA || isInB) && bit >= n) {
                return false;
            }
            inA += isInA ? 1 : 0;
            inB += isInB ? 1 : 0;
        }
        return inA == inB && inA >= 1 && inA <= 3;
    }

    private static void crewRefused(String why, int a, int b) {
        Scenes.refused(Scenes::busy, "race, " + why, x -> x.race(a, b, 1, 0), -1);
    }

    private static void crewsOneByOne() {
        Doc.term(1, "bits of ROWERS");
        due("the last rower's bit", with(3).race(4, 1, 0, 0), 0);
        due("the bit behind it, in A", with(3).race(8, 1, 0, 0), -1);
        due("the bit behind it, in B", with(3).race(1, 8, 0, 0), -1);
        crewRefused("bit 6", 64, 1);
        crewRefused("bit 31", Integer.MIN_VALUE, 1);
        crewRefused("bit 31 in B", 1, Integer.MIN_VALUE);
        Doc.term(1, "none in both");
        due("none in both", with(6).race(3, 12, 0, 0), 0);
        crewRefused("one in both", 3, 6);
        crewRefused("all in both", 7, 7);
        Doc.term(1, "as many in both");
        due("two and two", with(6).race(5, 10, 0, 0), 0);
        crewRefused("two and one", 3, 4);
        crewRefused("one and two", 1, 6);
        crewRefused("three and two", 7, 24);
        crewRefused("two and three", 3, 28);
        Doc.term(1, ": 1 to 3)");
        due("one", with(6).race(32, 1, 0, 0), 0);
        due("three", with(6).race(42, 21, 0, 0), 0);
        crewRefused("none at all", 0, 0);
        crewRefused("four and two", 15, 48);
        crewRefused("one and none", 1, 0);
        crewRefused("none and one", 0, 1);
    }

    private static void margins() {
        Doc.term(1, "MARGIN -999 to 999 (by how much A was ahead);");
        SeatRacing x = with(2);
        due("999", x.race(1, 2, 999, 0), 0);
        due("A was ahead", x.difference(0, 1, false), 999);
        due("999", x.raced(0, 2), 999);
        due("strike", x.strike(0), 0);
        due("-999", x.race(1, 2, -999, 0), 0);
        due("A was behind", x.difference(0, 1, false), -999);
        due("-999", x.raced(0, 2), -999);
        for (int margin : new int[] {1000, -1000, Integer.MIN_VALUE, Integer.MAX_VALUE}) {
            Scenes.refused(Scenes::busy, "margin " + margin, y -> y.race(1, 2, margin, 0), -1);
        }
    }

    private static void streams() {
        Doc.term(1, "STREAM: 1 (A had it), -1 (B had it), 0.");
        for (int stream = -1; stream <= 1; stream++) {
            SeatRacing x = Scenes.duel(10);
            due("stream " + stream, x.race(1, 2, 14, stream), 1);
            due("stream " + stream, x.raced(1, 3), stream);
            due("what it does", x.drift(false), stream == 0 ? NO : 4 * stream);
        }
        for (int stream : new int[] {2, -2, Integer.MIN_VALUE, Integer.MAX_VALUE}) {
            Scenes.refused(Scenes::busy, "stream " + stream, x -> x.race(1, 2, 0, stream), -1);
        }
    }

    private static void unknowns() {
        Doc.term(1, "Unknown are the STRENGTH of each ROWER and the DRIFT.");
        SeatRacing x = with(2, 1, 2, 10, 1);
        due("one race, two unknown: strengths", x.difference(0, 1, false), NO);
        due("one race, two unknown: drift", x.drift(false), NO);
        x.race(1, 2, 4, -1);
        due("two races: strengths", x.difference(0, 1, false), 7);
        due("two races: drift", x.drift(false), 3);
    }

    private static void guesses() {
        Doc.term(1, "GUESS of a RACE: STRENGTHS of A less those of B, together, and STREAM times DRIFT.");
        // Strengths 5, 3, 1, 0 but for a number that is alike for all; the drift is 7.
        SeatRacing x = with(4, 1, 2, 2, 0, 2, 4, 2, 0, 4, 8, 1, 0, 1, 2, 9, 1);
        due("0 1 : 2 3", x.guess(3, 12, 0, false, false), 7);
        due("0 1 : 2 3, A has the stream", x.guess(3, 12, 1, false, false), 14);
        due("0 1 : 2 3, B has the stream", x.guess(3, 12, -1, false, false), 0);
        due("2 3 : 0 1, A has the stream", x.guess(12, 3, 1, false, false), 0);
        due("1 : 3", x.guess(2, 8, 0, false, false), 3);
    }

    private static void rests() {
        Doc.term(1, "REST: MARGIN less GUESS.");
        SeatRacing x = Scenes.duel(10, 14, 999, -999);
        int[] margins = {10, 14, 999, -999};
        for (int race = 0; race < 4; race++) {
            due("rest(" + race + ")", x.rest(race, false), margins[race] - 6);
        }
        due("guess", x.guess(1, 2, 0, false, false), 6);
    }

    private static void best() {
        Doc.term(1, "BEST are all those STRENGTHS and DRIFTS by which SUM is least: that of the squares of all RESTS.");
        int[] margins = {10, -3, 21, 4};
        SeatRacing x = Scenes.duel(margins);
        long least = Long.MAX_VALUE;
        for (int strength = -100; strength <= 100; strength++) {
            long sum = 0;
            for (int margin : margins) {
                sum += (long) (margin - strength) * (margin - strength);
            }
            least = Math.min(least, sum);
        }
        due("the difference by which it is least", x.difference(0, 1, false), 8);
        due("the least sum", x.sum(false), least);
    }

    private static void restsAlike() {
        Doc.term(1, "(RESTS are alike by all that are BEST.)");
        SeatRacing x = with(4, 3, 12, 10, 1, 3, 12, 5, 1);
        due("nothing is known", x.count(4), 0);
        due("nor the drift", x.drift(false), NO);
        Check.fraction("and still rest(0)", x.rest(0, false), x.rest(0, true), 5, 2);
        Check.fraction("and still rest(1)", x.rest(1, false), x.rest(1, true), -5, 2);
    }

    private static void forms() {
        Doc.term(1, "A FORM is a row of whole numbers, one for each ROWER, one for the DRIFT; "
            + "that of a RACE: 1 for those of A, -1 for those of B, STREAM.");
        SeatRacing x = with(4, 3, 12, 10, 1);
        due("the race's own form", x.guess(3, 12, 1, false, false), 10);
        due("its form times -1", x.guess(12, 3, -1, false, false), -10);
        due("another stream", x.guess(3, 12, 0, false, false), NO);
        due("the boats turned alone", x.guess(12, 3, 1, false, false), NO);
        due("other crews", x.guess(5, 10, 1, false, false), NO);
    }

    private static void known() {
        Doc.term(1, "A FORM is KNOWN if by weights of RACES (fractions) it is the sum of their FORMS, each times its weight");
        SeatRacing x = with(4, 3, 12, 10, 0, 5, 10, 5, 0);
        Check.fraction("by halves", x.difference(0, 3, false), x.difference(0, 3, true), 15, 2);
        due("by a half less a half", x.difference(1, 2, false), 5);
        due("1's lower", x.difference(1, 2, true), 2);
        due("by no weights", x.difference(0, 1, false), NO);
        due("a form that is one race with 0 times the other", x.guess(3, 12, 0, false, false), 10);
        // Thirds: 0 1 2 : 3 4 5 and the differences of 0, 1 and 2, and of 3, 4 and 5.
        SeatRacing y = with(6, 7, 56, 9, 0, 1, 2, 0, 0, 2, 4, 0, 0, 8, 16, 0, 0);
        due("without the last one", y.difference(0, 3, false), NO);
        y.race(16, 32, 1, 0);
        Check.fraction("by thirds", y.difference(0, 5, false), y.difference(0, 5, true), 11, 3);
    }

    private static void knownWithoutRaces() {
        Doc.term(1, "(without RACES only that of all 0 is)");
        SeatRacing x = with(6);
        for (int i = 0; i < 6; i++) {
            for (int j = 0; j < 6; j++) {
                Check.fraction("difference of " + i + " and " + j,
                    x.difference(i, j, false), x.difference(i, j, true), i == j ? 0 : NO, i == j ? 1 : NO);
            }
        }
        due("drift", x.drift(false), NO);
        due("a form with the drift", x.guess(1, 2, 1, false, false), NO);
        due("couples", x.count(4), 0);
        due("even crews", x.even(3, 0), -1);
    }

    private static void values() {
        Doc.term(1, "VALUE of a KNOWN FORM: the sum of STRENGTHS and DRIFT each times its number (alike by all that are BEST);");
        // Strengths 9, 4, 0 and a drift of 2; rower 3 was in no race, so much else is best as well.
        SeatRacing x = with(4, 1, 2, 5, 0, 2, 4, 4, 0, 1, 4, 11, 1);
        due("0 and 2", x.difference(0, 2, false), 9);
        due("drift", x.drift(false), 2);
        due("0 : 2, B has the stream", x.guess(1, 4, -1, false, false), 7);
        due("2 : 0, A has the stream", x.guess(4, 1, 1, false, false), -7);
        due("not known", x.difference(0, 3, false), NO);
    }

    private static void doubts() {
        Doc.term(1, "its DOUBT: the least sum of squares of such weights.");
        SeatRacing x = with(3, 1, 2, 5, 0);
        Check.fraction("one race", x.doubt(0, 1, false), x.doubt(0, 1, true), 1, 1);
        x.race(2, 1, 999, 0);
        Check.fraction("halves are less than one alone", x.doubt(0, 1, false), x.doubt(0, 1, true), 1, 2);
        x.race(1, 4, 0, 0);
        x.race(4, 2, 0, 0);
        // Two races straight and a way of two: 2/5, 2/5 and 1/5, 1/5.
        Check.fraction("two ways", x.doubt(0, 1, false), x.doubt(0, 1, true), 2, 5);
        Check.fraction("weights of 0", x.doubt(1, 1, false), x.doubt(1, 1, true), 0, 1);
    }

    private static void differences() {
        Doc.term(1, "DIFFERENCE of ROWERS i, j: the FORM with 1 for i, -1 for j, 0 else.");
        SeatRacing x = with(6, 32, 1, 12, 0);
        due("of 5 and 0", x.difference(5, 0, false), 12);
        due("of 0 and 5", x.difference(0, 5, false), -12);
        due("of 5 and 5", x.difference(5, 5, false), 0);
        due("of 5 and 1", x.difference(5, 1, false), NO);
        due("as a race", x.guess(32, 1, 0, false, false), 12);
    }

    private static void groups() {
        Doc.term(1, "GROUP of a ROWER: he and those whose DIFFERENCE with him is KNOWN.");
        SeatRacing x = with(6, 1, 4, 3, 0, 4, 32, 3, 0, 2, 8, 0, 1);
        int[] groups = {37, 2, 37, 8, 16, 37};
        for (int rower = 0; rower < 6; rower++) {
            due("group of " + rower, x.rank(rower, 3), groups[rower]);
        }
        x.race(2, 8, 0, 0);
        due("1 and 3 are known now", x.rank(3, 3), 10);
        due("he alone", with(1).rank(0, 3), 1);
    }

    private static void ahead() {
        Doc.term(1, "i is AHEAD of j if their DIFFERENCE is KNOWN and its VALUE above 0;");
        due("of 0: 0 is not ahead", Scenes.duel(0).rank(1, 0), 0);
        due("of 0: 1 is not ahead", Scenes.duel(0).rank(0, 0), 0);
        due("of 1: 0 is ahead", Scenes.duel(1).rank(1, 0), 1);
        due("of -1: 1 is ahead", Scenes.duel(-1).rank(0, 0), 1);
        due("of -1: 0 is not", Scenes.duel(-1).rank(1, 0), 0);
        due("of a twelfth", Scenes.duel(1, 0, 0, 0, 0, 0, 0, 0, 0, 0, 0, 0).rank(1, 0), 1);
        due("of less than nothing, by a twelfth", Scenes.duel(0, 0, -1, 0, 0, 0, 0, 0, 0, 0, 0, 0).rank(1, 0), 0);
        due("not known", with(2, 1, 2, 999, 1).rank(1, 0), 0);
        due("of himself", Scenes.duel(5).rank(0, 0), 0);
    }

    private static void surely() {
        Doc.term(1, "SURELY, if that is above LIMIT (1 to 99; 10 at first) times its DOUBT.");
        due("10 is not above 10 times 1", Scenes.duel(10).rank(1, 1), 0);
        due("10 is not above 10 times 1", Scenes.duel(10).rank(0, 2), 0);
        due("11 is", Scenes.duel(11).rank(1, 1), 1);
        due("11 is", Scenes.duel(11).rank(0, 2), 1);
        due("-11 is not", Scenes.duel(-11).rank(0, 2), 0);
        due("10/3 is not above 10 times a third", Scenes.duel(10, 0, 0).rank(0, 2), 0);
        due("11/3 is", Scenes.duel(0, 11, 0).rank(0, 2), 1);
        for (int limit : new int[] {1, 2, 98, 99}) {
            for (int margin : new int[] {limit, limit + 1}) {
                SeatRacing x = Scenes.duel(margin);
                x.limit(limit);
                due(margin + " surely by " + limit, x.rank(1, 1), margin - limit);
                due(margin + " surely by " + limit, x.rank(0, 2), margin - limit);
            }
        }
        due("0, with a doubt of 0, is not surely ahead of himself", Scenes.duel(11).rank(0, 1), 0);
        due("not known", with(2, 1, 2, 999, 1).rank(0, 2), 0);
    }

    private static void limits() {
        Doc.term(1, "(1 to 99; 10 at first)");
        due("at first", new SeatRacing().count(2), 10);
        for (int limit = 1; limit <= 99; limit++) {
            SeatRacing x = new SeatRacing();
            Check.due("limit(" + limit + ")", x.limit(limit), limit != 10);
            due("limit", x.count(2), limit);
        }
        for (int limit : new int[] {0, 100, -1, Integer.MIN_VALUE, Integer.MAX_VALUE}) {
            Scenes.refused(Scenes::busy, "limit(" + limit + ")", x -> x.limit(limit) ? 1 : 0, 0);
        }
    }

    private static void fractions() {
        Doc.term(1, "FRACTIONS are told in least terms, the lower number above 0 (0: 0 and 1).");
        SeatRacing x = Scenes.duel(1, 1, 0, 0);
        Check.fraction("2/4", x.difference(0, 1, false), x.difference(0, 1, true), 1, 2);
        Check.fraction("-2/4", x.difference(1, 0, false), x.difference(1, 0, true), -1, 2);
        Check.fraction("rest of -2/4", x.rest(2, false), x.rest(2, true), -1, 2);
        Check.fraction("4/4", x.sum(false), x.sum(true), 1, 1);
        SeatRacing zero = Scenes.duel(7, -7, 0);
        Check.fraction("0/3", zero.difference(0, 1, false), zero.difference(0, 1, true), 0, 1);
        Check.fraction("0/3, the other way", zero.difference(1, 0, false), zero.difference(1, 0, true), 0, 1);
        Check.fraction("rest of 0/3", zero.rest(2, false), zero.rest(2, true), 0, 1);
        SeatRacing twelve = Scenes.duel(999, 999, 999, 999, 999, 999, 999, 999, 999, 999, 999, 998);
        Check.fraction("no common divisor", twelve.difference(0, 1, false), twelve.difference(0, 1, true), 11987, 12);
    }

    private static void suits() {
        Doc.term(2, "SUIT of two ROWERS: RESTS of all RACES in which both are in A, less those in which both are in B, together.");
        SeatRacing x = with(6, 3, 12, 10, 0, 3, 12, 4, 0, 3, 12, 4, 0, 12, 3, 0, 0);
        // The guess is 9/2, the rests are 11/2, -1/2, -1/2 and 9/2.
        Check.fraction("three in A, one in B", x.suit(0, 1, false), x.suit(0, 1, true), 0, 1);
        SeatRacing y = with(6, 3, 12, 10, 0, 5, 10, 0, 0, 1, 8, 0, 0, 2, 4, 5, 0);
        // 0-3 by 5 against 0, 1-2 by 5 against 5: the rests are 5/3, 5/3, -10/3 and 0.
        Check.fraction("both in A", y.suit(0, 1, false), y.suit(0, 1, true), 5, 3);
        Check.fraction("both in B", y.suit(2, 3, false), y.suit(2, 3, true), -5, 3);
        Check.fraction("both in A in another race", y.suit(0, 2, false), y.suit(0, 2, true), 5, 3);
        Check.fraction("never in one boat", y.suit(0, 3, false), y.suit(0, 3, true), 0, 1);
        Check.fraction("in no race", y.suit(4, 5, false), y.suit(4, 5, true), 0, 1);
        Check.fraction("one in a boat, one ashore", y.suit(0, 4, false), y.suit(0, 4, true), 0, 1);
    }

    private static void swapStreams() {
        Doc.term(2, "A SWAP of i and j: RACES r below s of one STREAM;");
        for (int first = -1; first <= 1; first++) {
            for (int second = -1; second <= 1; second++) {
                SeatRacing x = with(2, 1, 2, 10, first, 2, 1, 4, second);
                due("streams " + first + " and " + second, x.swaps(0, 1, 0), first == second ? 1 : 0);
                due("streams " + first + " and " + second, x.swaps(1, 0, 0), first == second ? 1 : 0);
            }
        }
        due("one race is no swap with itself", Scenes.duel(5).swaps(0, 1, 0), 0);
        due("each two of them once", with(2, 1, 2, 1, 0, 2, 1, 1, 0, 1, 2, 1, 0, 2, 1, 1, 0).swaps(0, 1, 0), 4);
    }

    private static void swapCrews() {
        Doc.term(2, "i in A, j in B in the one, j in A, i in B in the other, all others as they were.");
        due("1 and 3 as they were", with(6, 3, 12, 1, 0, 6, 9, 1, 0).swaps(0, 2, 0), 1);
        due("j in A first", with(6, 6, 9, 1, 0, 3, 12, 1, 0).swaps(0, 2, 0), 1);
        due("the same race twice", with(6, 3, 12, 1, 0, 3, 12, 1, 0).swaps(0, 2, 0), 0);
        due("all of both boats", with(6, 3, 12, 1, 0, 12, 3, 1, 0).swaps(0, 2, 0), 0);
        due("4 for 1 in A", with(6, 3, 12, 1, 0, 20, 9, 1, 0).swaps(0, 2, 0), 0);
        due("4 for 3 in B", with(6, 3, 12, 1, 0, 6, 17, 1, 0).swaps(0, 2, 0), 0);
        due("more in the boats", with(6, 1, 4, 1, 0, 6, 9, 1, 0).swaps(0, 2, 0), 0);
        due("both in one boat", with(6, 5, 10, 1, 0, 10, 5, 1, 0).swaps(0, 2, 0), 0);
        due("i ashore", with(6, 3, 12, 1, 0, 6, 24, 1, 0).swaps(0, 2, 0), 0);
        due("three in each", with(6, 7, 56, 1, 0, 14, 49, 1, 0).swaps(0, 3, 0), 1);
        due("three in each, others", with(6, 7, 56, 1, 0, 14, 49, 1, 0).swaps(0, 4, 0), 0);
    }

    private static void swapTells() {
        Doc.term(2, "It tells half of what MARGIN is with i in A less what it is with j in A.");
        SeatRacing x = with(2, 1, 2, 999, 0, 2, 1, -999, 0);
        Check.fraction("half of 1998", x.swaps(0, 1, 1), x.swaps(0, 1, 2), 999, 1);
        Check.fraction("the other way", x.swaps(1, 0, 1), x.swaps(1, 0, 2), -999, 1);
        SeatRacing y = with(2, 2, 1, 4, 0, 1, 2, 5, 0);
        Check.fraction("half of 1", y.swaps(0, 1, 1), y.swaps(0, 1, 2), 1, 2);
        Check.fraction("half of -1", y.swaps(1, 0, 1), y.swaps(1, 0, 2), -1, 2);
        SeatRacing z = with(2, 2, 1, 5, 0, 1, 2, 5, 0);
        Check.fraction("half of 0", z.swaps(0, 1, 1), z.swaps(0, 1, 2), 0, 1);
    }

    private static void matches() {
        Doc.term(2, "A MATCH of size k (1 to 3): CREWS of k ROWERS each, the least ROWER of both in A, STREAM 0.");
        for (int n = 0; n <= 6; n++) {
            for (int k = 0; k <= 4; k++) {
                boolean can = k >= 1 && k <= 3 && n >= 2 * k;
                int a = (1 << k) - 1;
                due("A of size " + k + " of " + n, with(n).next(k, 0), can ? a : -1);
                due("B of size " + k + " of " + n, with(n).next(k, 1), can ? a << k : -1);
            }
        }
        eachMatch();
        // 1 and 2 have raced against 0 and 3; as a match it has 0 in A.
        SeatRacing x = with(4, 6, 9, 5, 0);
        due("the least rower in A", x.even(2, 0), 9);
        due("the others in B", x.even(2, 1), 6);
        due("with a stream it is no match", with(4, 9, 6, 5, 1).even(2, 0), -1);
        due("nor is it for one with a stream", with(4, 9, 6, 5, -1).even(2, 0), -1);
    }

    /** From the first to the last: the only race there is, or that race turned, is the match that is known. */
    private static void eachMatch() {
        int[] found = new int[4];
        for (int a = 1; a < 64; a++) {
            for (int b = 1; b < 64; b++) {
                int k = Integer.bitCount(a);
                if (canRow(6, a, b) && Integer.numberOfTrailingZeros(a) < Integer.numberOfTrailingZeros(b)) {
                    found[k]++;
                    evenIs(with(6, a, b, 5, 0), k, a, b);
                    evenIs(with(6, b, a, 5, 0), k, a, b);
                }
            }
        }
        due("matches of size 1", found[1], 15);
        due("matches of size 2", found[2], 45);
        due("matches of size 3", found[3], 10);
    }

    private static void nextIs(SeatRacing x, int k, long... wanted) {
        for (int what = 0; what < 5; what++) {
            due("next(" + k + ", " + what + ")", x.next(k, what), wanted[what]);
        }
    }

    private static void next() {
        Doc.term(2, "NEXT of size k: the MATCH with which, were it a RACE (whatever its MARGIN), "
            + "most DIFFERENCES of couples would be KNOWN;");
        // 0, 1, 2 in a row and 3 with 4: a tie between the two groups tells all ten.
        nextIs(with(5, 1, 2, 9, 0, 2, 4, 9, 0, 8, 16, 9, 0), 1, 2, 8, 10, 18, 1);
        nextIs(with(5, 1, 2, -9, 0, 2, 4, 0, 0, 8, 16, 999, 0), 1, 2, 8, 10, 18, 1);
        // 4 alone against a group of four is more than a tie with 5 alone.
        nextIs(with(6, 1, 2, 0, 0, 2, 4, 0, 0, 4, 8, 0, 0), 1, 2, 16, 10, 18, 1);
        nextIs(with(2, 1, 2, 5, 1), 1, 1, 2, 1, 1, 1);
        nextIs(with(4), 2, 3, 12, 0, 0, 1);
    }

    private static void nextAmongSeveral() {
        Doc.term(2, "of several that with the least sum of the DOUBTS of these;");
        nextIs(with(3, 2, 1, 5, 0, 1, 4, 5, 0), 1, 2, 4, 3, 2, 1);
        nextIs(with(2, 1, 2, 5, 0), 1, 1, 2, 1, 1, 2);
        nextIs(with(3, 1, 2, 5, 0, 1, 2, 5, 0, 2, 4, 5, 0, 2, 4, 5, 0, 2, 4, 5, 0, 1, 4, 0, 0), 1, 1, 4, 3, 7, 8);
        Doc.term(2, "of several that with the least A, then the least B.");
        nextIs(with(6), 1, 1, 2, 1, 1, 1);
        nextIs(with(6), 2, 3, 12, 0, 0, 1);
        nextIs(with(6), 3, 7, 56, 0, 0, 1);
        // A ring of 0, 1, 3, 2: either of its couples that are apart is as good; 0 and 3 have the least A.
        nextIs(with(4, 1, 2, 0, 0, 2, 8, 0, 0, 8, 4, 0, 0, 4, 1, 0, 0), 1, 1, 8, 6, 4, 1);
        // A star round 1: a tie of 0 and 2, 0 and 3 or 2 and 3 is as good; of the least A the least B.
        nextIs(with(4, 2, 1, 0, 0, 2, 4, 0, 0, 2, 8, 0, 0), 1, 1, 4, 6, 19, 3);
    }

    private static void fewest() {
        Doc.term(2, "FEWEST of size k: how many MATCHES at least must be RACES yet so that all DIFFERENCES are KNOWN.");
        for (int n = 2; n <= 6; n++) {
            SeatRacing x = with(n);
            for (int left = n - 1; left > 0; left--) {
                due("fewest(1) of " + n, x.fewest(1), left);
                due("not all known", x.count(4) == n * (n - 1) / 2 ? 1 : 0, 0);
                x.race(1 << left, 1 << left - 1, 0, 0);
            }
            due("fewest(1) of " + n + ", all known", x.fewest(1), 0);
            due("all known", x.count(4), n * (n - 1) / 2);
        }
        due("one rower", with(1).fewest(1), 0);
        due("a race that is known already helps nothing", with(3, 1, 2, 1, 0, 2, 1, 1, 0).fewest(1), 1);
        due("pairs", with(4, 3, 12, 1, 0, 5, 10, 1, 0).fewest(2), 1);
        due("pairs, and one against one", with(4, 3, 12, 1, 0, 5, 10, 1, 0).fewest(1), 1);
        due("the stream hides one", with(4, 3, 12, 1, 0, 5, 10, 1, 1).fewest(2), 2);
    }

    private static void oddIs(SeatRacing x, long... wanted) {
        for (int what = 0; what < 3; what++) {
            due("odd(" + what + ")", x.odd(what), wanted[what]);
        }
    }

    private static void odd() {
        Doc.term(2, "The ODD RACE: that without which SUM is least, of several the first.");
        oddIs(Scenes.duel(5, 5, 50, 5), 2, 0, 1);
        oddIs(Scenes.duel(5, 5, 5, 50), 3, 0, 1);
        oddIs(Scenes.duel(50, 5, 5, 5), 0, 0, 1);
        oddIs(Scenes.duel(5, 5, 5), 0, 0, 1);
        oddIs(Scenes.duel(5, 10), 0, 0, 1);
        // A half without the first of 0 and 1, two thirds without one of 2 and 3; then these ahead of those.
        oddIs(with(4, 1, 2, 1, 0, 1, 2, 0, 0, 1, 2, 0, 0, 4, 8, 0, 0, 4, 8, 1, 0), 0, 1, 2);
        oddIs(with(4, 4, 8, 0, 0, 4, 8, 1, 0, 1, 2, 1, 0, 1, 2, 0, 0, 1, 2, 0, 0), 2, 1, 2);
        // Without the second or the fourth it is alike: the second is the first of these.
        oddIs(Scenes.duel(10, 14, 10, 6), 1, 32, 3);
    }

    private static void evenIs(SeatRacing x, int k, int a, int b) {
        due("even(" + k + ", 0)", x.even(k, 0), a);
        due("even(" + k + ", 1)", x.even(k, 1), b);
    }

    private static void even() {
        Doc.term(2, "EVEN CREWS of size k: the MATCH whose FORM is KNOWN, with the VALUE least in size;");
        evenIs(with(3, 1, 2, 9, 0), 1, 1, 2);
        evenIs(with(3), 1, -1, -1);
        evenIs(with(3, 1, 2, -9, 0, 1, 4, 8, 0), 1, 1, 4);
        evenIs(with(3, 1, 2, -8, 0, 1, 4, 9, 0), 1, 1, 2);
        evenIs(with(3, 2, 4, 0, 0, 1, 4, 9, 0), 1, 2, 4);
        Doc.term(2, "of several the least A, then the least B.");
        evenIs(with(3, 1, 2, 0, 0, 1, 4, 0, 0), 1, 1, 2);
        evenIs(with(3, 1, 2, -5, 0, 1, 4, 5, 0), 1, 1, 2);
        evenIs(with(3, 1, 2, 5, 0, 1, 4, -5, 0), 1, 1, 2);
        // 0 with 3 and 1 with 2 are even: the least A.
        evenIs(with(4, 1, 8, 0, 0, 2, 4, 0, 0, 1, 2, 5, 0), 1, 1, 8);
        evenIs(with(6, 7, 56, 0, 0), 3, 7, 56);
    }
}
