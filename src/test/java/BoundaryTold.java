/** Promises 1 to 11: what is told. */
final class BoundaryTold {
    private static final long NO = Scenes.NO;

    private BoundaryTold() {
    }

    static void all() {
        newObject();
        constants();
        manyCalls();
        feed();
        feedBeyond();
        end();
        endBeyond();
        tell();
        tellWithFault();
        faultKind();
        faultStatement();
        faultOfAnother();
        crew();
        crewBeyond();
        limit();
        limitBeyond();
        race();
        raceBeyond();
        raceBeyondTwelve();
        strike();
        strikeBeyond();
        count();
        countCouples();
        countGroups();
        countIndependent();
        countOfAnother();
        raced();
        racedBeyond();
    }

    private static void due(String call, long got, long want) {
        Check.due(call, got, want);
    }

    private static SeatRacing with(int rowers, int... races) {
        return Scenes.with(rowers, races);
    }

    private static long blankFeed(SeatRacing x) {
        return x.feed(0x20202020, 0x20202020, 0x20202020, 0x20202020, 0x20202020);
    }

    private static void newObject() {
        Doc.promise(1, "No ROWERS.");
        SeatRacing x = new SeatRacing();
        int[] counts = {0, 0, 10, 0, 0, 0, 0};
        for (int what = 0; what < counts.length; what++) {
            due("count(" + what + ")", x.count(what), counts[what]);
        }
        due("rower 0", x.rank(0, 0), -1);
        due("difference of 0 and 0", x.difference(0, 0, false), NO);
        due("race of 0 and 1", x.race(1, 2, 0, 0), -1);
        due("race of none", x.race(0, 0, 0, 0), -1);
        due("race 0", Scenes.raced(x, 0, 0), Scenes.THROWS);
        due("strike(0)", x.strike(0), -1);
        Check.fraction("sum", x.sum(false), x.sum(true), 0, 1);
        due("drift", x.drift(false), NO);
        due("fault(0)", x.fault(0), 0);
        due("fault(1)", x.fault(1), -1);
        due("all known", x.fewest(1), 0);
        due("another object has nothing of it", with(3).count(0) + new SeatRacing().count(0), 3);
    }

    private static void constants() {
        Doc.face("`NONE = -1`: There is none.");
        due("NONE", SeatRacing.NONE, -1);
        due("none", with(2).even(1, 0), SeatRacing.NONE);
        Doc.face("`NO_NUMBER = -1000000000000000000L`: Told where a number below 0 may be one.");
        due("NO_NUMBER", SeatRacing.NO_NUMBER, -1000000000000000000L);
        due("none", with(2).difference(0, 1, false), SeatRacing.NO_NUMBER);
        due("a number of -1 is no none", Scenes.duel(-1).difference(0, 1, false), -1);
    }

    private static void manyCalls() {
        Doc.face("An object is used for at most 512 calls after it has been made;");
        SeatRacing x = new SeatRacing();
        x.crew(2);
        x.race(1, 2, 7, 0);
        for (int call = 3; call < 511; call++) {
            x.limit(call % 99 + 1);
        }
        due("the 511th call", x.difference(0, 1, false), 7);
        due("the 512th call", x.race(1, 2, 9, 0), 1);
    }

    private static void feed() {
        Doc.promise(2, "Twenty bytes come behind the TAPE, of each number the highest first: how many it has.");
        SeatRacing x = new SeatRacing();
        // "limit 12; limit 3; l" and "imit 45;" with twelve blanks.
        due("feed", x.feed(0x6c696d69, 0x74203132, 0x3b206c69, 0x6d697420, 0x333b206c), 20);
        due("feed", x.feed(0x696d6974, 0x2034353b, 0x20202020, 0x20202020, 0x20202020), 40);
        due("tell", x.tell(), 3);
        due("limit", x.count(2), 45);
        due("behind tell the tape begins anew", blankFeed(x), 20);
        due("end(7)", x.end(7) ? 1 : 0, 1);
        due("behind end it goes on at its end", blankFeed(x), 27);
        // A byte above 127 is one, too: the first of a number below 0.
        SeatRacing y = new SeatRacing();
        due("feed", y.feed(0x20202020, 0x20202020, 0x20202020, 0x20202020, 0x202020ff), 20);
        due("tell", y.tell(), -1);
        due("fault at the last byte", y.fault(0), 1 + 8 * 19);
        due("feed", y.feed(0x20202020, 0x80202020, -1, -1, -1), 20);
        due("tell", y.tell(), -1);
        due("fault at the fifth byte", y.fault(0), 1 + 8 * 4);
    }

    private static SeatRacing fed(int bytes) {
        SeatRacing x = Scenes.with(3, 1, 2, 3, 0);
        for (int size = 20; size < bytes + 20 && size <= 300; size += 20) {
            due("feed", blankFeed(x), size);
        }
        due("end(" + bytes + ")", x.end(bytes) ? 1 : 0, 1);
        return x;
    }

    private static void feedBeyond() {
        Doc.promise(2, "NONE, and none come: more than 300.");
        for (int bytes : new int[] {0, 1, 260, 279, 280}) {
            SeatRacing x = fed(bytes);
            due("feed behind " + bytes, blankFeed(x), bytes + 20);
            due("bytes", x.count(3), bytes + 20);
        }
        for (int bytes : new int[] {281, 282, 299, 300}) {
            // Strange bytes, so that any that came would be a fault.
            Scenes.refused(() -> fed(bytes), "feed behind " + bytes, x -> x.feed(-1, -1, -1, -1, -1), -1);
        }
    }

    private static void end() {
        Doc.promise(3, "The TAPE has its first n bytes alone: true;");
        for (int n : new int[] {0, 1, 19, 20}) {
            SeatRacing x = new SeatRacing();
            blankFeed(x);
            Check.due("end(" + n + ") of 20", x.end(n), true);
            due("bytes", x.count(3), n);
        }
        SeatRacing x = new SeatRacing();
        Check.due("end(0) of none", x.end(0), true);
        Check.put(x, Check.bytes("limit 7;limit 8;"));
        Check.due("end(8)", x.end(8), true);
        due("the first alone", x.tell(), 1);
        due("limit", x.count(2), 7);
        Check.due("end(300) of 300", fed(300).end(300), true);
    }

    private static void endBeyond() {
        Doc.promise(3, "false: it has not so many,");
        Scenes.refused(Scenes::fresh, "end(1) of none", x -> x.end(1) ? 1 : 0, 0);
        Scenes.refused(Scenes::busy, "end(33) of 32", x -> x.end(33) ? 1 : 0, 0);
        Scenes.refused(() -> fed(300), "end(301) of 300", x -> x.end(301) ? 1 : 0, 0);
        Scenes.refused(Scenes::busy, "end of the most", x -> x.end(Integer.MAX_VALUE) ? 1 : 0, 0);
        SeatRacing cut = fed(300);
        Check.due("end(10)", cut.end(10), true);
        Check.due("end(11): what was cut off does not come back", cut.end(11), false);
        cut.tell();
        Check.due("end(1) behind tell", cut.end(1), false);
        Doc.promise(3, "n is below 0.");
        Scenes.refused(Scenes::busy, "end(-1)", x -> x.end(-1) ? 1 : 0, 0);
        Scenes.refused(Scenes::fresh, "end(-1) of none", x -> x.end(-1) ? 1 : 0, 0);
        Scenes.refused(Scenes::busy, "end of the least", x -> x.end(Integer.MIN_VALUE) ? 1 : 0, 0);
    }

    private static void tell() {
        Doc.promise(4, "The TAPE (empty then) is told: how many STATEMENTS.");
        SeatRacing x = new SeatRacing();
        due("tell of none", x.tell(), 0);
        due("bytes", x.count(3), 0);
        for (int statements = 1; statements <= 37; statements += 12) {
            Check.tells(x, "limit 5;".repeat(statements), statements);
            due("bytes", x.count(3), 0);
            due("told once only", x.tell(), 0);
        }
        Check.tells(x, "crew6;".repeat(50), 50);
        due("rowers", x.count(0), 6);
        Check.faults(x, "x", 1, 0, 0);
        due("empty behind a fault, too", x.count(3), 0);
        due("tell again", x.tell(), 0);
    }

    private static void tellWithFault() {
        Doc.promise(4, "NONE: a FAULT (all else stays as it was).");
        String[] texts = {
            "crew 2; limit 3; race 0 : 1 by 5; x", "crew 0; x", "limit 99; race 0 : 1 by 1", "race 0 1 2 : 3 4 5 by 1;;",
            "crew 6; race 0 : 1 by 1; race 0 : 6 by 1;", "crew 7;", "limit 20; limit 0;",
        };
        for (String text : texts) {
            SeatRacing x = Scenes.busy();
            due("end(0)", x.end(0) ? 1 : 0, 1);
            Check.put(x, Check.bytes(text));
            due("tell of " + text, x.tell(), -1);
            due("the tape is empty", x.count(3), 0);
            Scenes.same("tell of " + text, Scenes.picture(x, false), Scenes.picture(Scenes.busy(), false));
        }
        SeatRacing full = Scenes.full();
        due("end(0)", full.end(0) ? 1 : 0, 1);
        Check.faults(full, "crew 2; race 0 : 1 by 4; race 0 : 2", 2, 34, 2);
        Scenes.same("a fault with twelve races", Scenes.picture(full, false), Scenes.picture(Scenes.full(), false));
        // What comes next goes on from what there was ahead of the fault.
        due("a 13th", full.race(1, 2, 0, 0), -2);
        due("strike", full.strike(11), 11);
        Check.tells(full, "race 0 : 2 by 4;", 1);
        due("races", full.count(1), 12);
    }

    private static void faultKind() {
        Doc.promise(5, "Of the latest tell(), what 0: its FAULT (0 without, and ahead of any),");
        SeatRacing x = new SeatRacing();
        due("ahead of any", x.fault(0), 0);
        Check.put(x, Check.bytes("limit 0;"));
        due("ahead of any, with a text", x.fault(0), 0);
        due("tell", x.tell(), -1);
        due("fault", x.fault(0), 2 + 8 * 6);
        due("asked again", x.fault(0), 2 + 8 * 6);
        Check.put(x, Check.bytes("limit 7"));
        x.crew(3);
        x.race(1, 2, 3, 0);
        x.strike(0);
        due("of the latest tell() still", x.fault(0), 2 + 8 * 6);
        due("tell", x.tell(), -1);
        due("of the latest", x.fault(0), 1 + 8 * 7);
        due("tell without", x.tell(), 0);
        due("without", x.fault(0), 0);
    }

    private static void faultStatement() {
        Doc.promise(5, "1: the number of the STATEMENT it is in (from 0; NONE without).");
        due("ahead of any", new SeatRacing().fault(1), -1);
        for (int statement = 0; statement < 37; statement += 4) {
            SeatRacing x = new SeatRacing();
            Check.faults(x, "limit 5;".repeat(statement) + "x", 1, 8 * statement, statement);
            due("fault(1)", x.fault(1), statement);
            Check.faults(x, "limit 5;".repeat(statement) + "limit", 1, 8 * statement + 5, statement);
            Check.faults(x, "limit 5;".repeat(statement) + "limit 0", 2, 8 * statement + 6, statement);
            due("fault(1)", x.fault(1), statement);
            Check.tells(x, "limit 5;", 1);
            due("without", x.fault(1), -1);
        }
    }

    private static void faultOfAnother() {
        Doc.promise(5, "NONE for another what.");
        for (int what : new int[] {-1, 2, 3}) {
            Scenes.refused(Scenes::busy, "fault(" + what + ")", x -> x.fault(what), -1);
            Scenes.refused(Scenes::fresh, "fault(" + what + ")", x -> x.fault(what), -1);
        }
        for (int what : Scenes.FAR) {
            due("fault(" + what + ")", Scenes.busy().fault(what), -1);
        }
    }

    private static void crew() {
        Doc.promise(6, "So many ROWERS, no RACES: true.");
        for (int n = 0; n <= 6; n++) {
            SeatRacing x = Scenes.busy();
            Check.due("crew(" + n + ")", x.crew(n), true);
            due("rowers", x.count(0), n);
            due("races", x.count(1), 0);
            due("limit stays", x.count(2), 20);
            due("the tape stays", x.count(3), 32);
            due("the fault stays", x.fault(0), 3 + 8 * 24);
            due("couples", x.count(4), 0);
            due("groups", x.count(5), n);
            due("independent races", x.count(6), 0);
            Check.fraction("sum", x.sum(false), x.sum(true), 0, 1);
            due("race 0", Scenes.raced(x, 0, 0), Scenes.THROWS);
            due("odd", x.odd(0), -1);
            due("drift", x.drift(false), NO);
        }
        SeatRacing full = Scenes.full();
        Check.due("crew(3), as many as there are", full.crew(3), true);
        due("there is room again", full.race(1, 2, 4, 0), 0);
    }

    private static void crewBeyond() {
        Doc.promise(6, "false: they can't be.");
        for (int n : new int[] {-1, 7, 8, Integer.MIN_VALUE, Integer.MAX_VALUE}) {
            Scenes.refused(Scenes::busy, "crew(" + n + ")", x -> x.crew(n) ? 1 : 0, 0);
            Scenes.refused(Scenes::fresh, "crew(" + n + ")", x -> x.crew(n) ? 1 : 0, 0);
        }
    }

    private static void limit() {
        Doc.promise(7, "LIMIT is another number: true.");
        SeatRacing x = Scenes.busy();
        for (int v : new int[] {1, 99, 2, 98, 10}) {
            Check.due("limit(" + v + ")", x.limit(v), true);
            due("limit", x.count(2), v);
        }
        due("races stay", x.count(1), 7);
        due("the tape stays", x.count(3), 32);
        Check.due("limit(9) at first", new SeatRacing().limit(9), true);
        Check.due("limit(11) at first", new SeatRacing().limit(11), true);
    }

    private static void limitBeyond() {
        Doc.promise(7, "false: it is so,");
        Scenes.refused(Scenes::fresh, "limit(10) at first", x -> x.limit(10) ? 1 : 0, 0);
        Scenes.refused(Scenes::busy, "limit(20) again", x -> x.limit(20) ? 1 : 0, 0);
        SeatRacing told = new SeatRacing();
        Check.tells(told, "limit 30;", 1);
        Check.due("limit(30), told by a text", told.limit(30), false);
        Check.due("limit(10), so no more", told.limit(10), true);
        SeatRacing kept = new SeatRacing();
        Check.faults(kept, "limit 30; x", 1, 10, 1);
        Check.due("limit(10), so still", kept.limit(10), false);
        Doc.promise(7, "it can't be.");
        for (int v : new int[] {0, 100, -1, -10, 101, Integer.MIN_VALUE, Integer.MAX_VALUE}) {
            Scenes.refused(Scenes::busy, "limit(" + v + ")", x -> x.limit(v) ? 1 : 0, 0);
        }
    }

    private static void race() {
        Doc.promise(8, "A RACE more: its number.");
        SeatRacing x = with(6);
        due("race", x.race(1, 32, 999, 1), 0);
        due("race", x.race(3, 12, -999, -1), 1);
        due("race", x.race(56, 7, 0, 0), 2);
        due("the very same once more", x.race(56, 7, 0, 0), 3);
        due("races", x.count(1), 4);
        due("strike", x.strike(1), 3);
        due("the next number", x.race(1, 2, 1, 0), 3);
        Check.tells(x, "race 0 : 1 by 4;", 1);
        due("behind one that a text told", x.race(1, 2, 1, 0), 5);
    }

    private static void raceBeyond() {
        Doc.promise(8, "NONE: the CREWS can't be, MARGIN, STREAM can't;");
        int[][] wrong = {
            {0, 0, 0, 0}, {1, 1, 0, 0}, {3, 4, 0, 0}, {1, 64, 0, 0}, {64, 1, 0, 0}, {-1, -1, 0, 0}, {15, 48, 0, 0},
            {1, 2, 1000, 0}, {1, 2, -1000, 0}, {1, 2, 0, 2}, {1, 2, 0, -2}, {0, 0, 1000, 2},
            {Integer.MIN_VALUE, Integer.MIN_VALUE, 0, 0}, {1, 2, Integer.MIN_VALUE, 0}, {1, 2, 0, Integer.MIN_VALUE},
        };
        for (int[] r : wrong) {
            String call = "race(" + r[0] + ", " + r[1] + ", " + r[2] + ", " + r[3] + ")";
            Scenes.refused(Scenes::busy, call, x -> x.race(r[0], r[1], r[2], r[3]), -1);
        }
        Scenes.refused(Scenes::fresh, "race without rowers", x -> x.race(1, 2, 0, 0), -1);
        Scenes.refused(() -> with(1), "race of one", x -> x.race(1, 2, 0, 0), -1);
    }

    private static void raceBeyondTwelve() {
        Doc.promise(8, "-2: there are 12.");
        SeatRacing x = with(2);
        for (int race = 0; race < 11; race++) {
            x.race(1, 2, race, 0);
        }
        due("the 12th", x.race(1, 2, 11, 0), 11);
        due("the 13th", x.race(1, 2, 12, 0), -2);
        due("with one gone", x.strike(0), 11);
        due("the 12th", x.race(1, 2, 12, 0), 11);
        due("the 13th", x.race(1, 2, 13, 0), -2);
        Scenes.refused(Scenes::full, "a 13th race", y -> y.race(1, 2, 0, 0), -2);
        Scenes.refused(Scenes::full, "a 13th race that can't be", y -> y.race(1, 1, 0, 0), -1);
        Scenes.refused(Scenes::full, "a 13th margin that can't be", y -> y.race(1, 2, 1000, 0), -1);
        Scenes.refused(Scenes::full, "a 13th stream that can't be", y -> y.race(1, 2, 0, 2), -1);
    }

    private static void strike() {
        Doc.promise(9, "A RACE goes (those behind it are one less): how many are left.");
        for (int gone = 0; gone < 12; gone++) {
            SeatRacing x = Scenes.full();
            due("strike(" + gone + ")", x.strike(gone), 11);
            due("races", x.count(1), 11);
            for (int race = 0; race < 11; race++) {
                int was = race < gone ? race : race + 1;
                due("A", x.raced(race, 0), 1 << was % 3);
                due("B", x.raced(race, 1), 1 << (was + 1) % 3);
                due("margin", x.raced(race, 2), 10 * was);
                due("stream", x.raced(race, 3), was % 2);
            }
            due("race 11", Scenes.raced(x, 11, 0), Scenes.THROWS);
            due("race 11 has no rest", x.rest(11, false), NO);
        }
        SeatRacing x = Scenes.duel(4, 8);
        due("strike(1)", x.strike(1), 1);
        due("it counts no more", x.difference(0, 1, false), 4);
        due("strike(0)", x.strike(0), 0);
        due("nothing is known", x.difference(0, 1, false), NO);
    }

    private static void strikeBeyond() {
        Doc.promise(9, "NONE: there is none such.");
        Scenes.refused(Scenes::fresh, "strike(0) of none", x -> x.strike(0), -1);
        Scenes.refused(Scenes::busy, "strike(7) of 7", x -> x.strike(7), -1);
        Scenes.refused(Scenes::full, "strike(12) of 12", x -> x.strike(12), -1);
        Scenes.refused(Scenes::full, "strike(-1)", x -> x.strike(-1), -1);
        for (int race : Scenes.FAR) {
            Scenes.refused(Scenes::busy, "strike(" + race + ")", x -> x.strike(race), -1);
        }
    }

    private static void count() {
        Doc.promise(10, "What 0: n, 1: RACES, 2: LIMIT, 3: bytes of the TAPE,");
        SeatRacing x = Scenes.busy();
        int[] counts = {6, 7, 20, 32};
        for (int what = 0; what < 4; what++) {
            due("count(" + what + ")", x.count(what), counts[what]);
        }
        due("count(0) of 0", with(0).count(0), 0);
        due("count(1) of 12", Scenes.full().count(1), 12);
        due("count(3) of 300", fed(300).count(3), 300);
        due("count(3) of 299", fed(299).count(3), 299);
    }

    private static void countCouples() {
        Doc.promise(10, "4: couples of ROWERS whose DIFFERENCE is KNOWN,");
        for (int n = 0; n <= 6; n++) {
            SeatRacing x = with(n);
            due("without races", x.count(4), 0);
            for (int rower = 1; rower < n; rower++) {
                x.race(1, 1 << rower, 0, 0);
                due("0 with 1 to " + rower, x.count(4), rower * (rower + 1) / 2);
            }
        }
        due("pairs alone", with(4, 3, 12, 0, 0).count(4), 0);
        due("pairs changed", with(4, 3, 12, 0, 0, 5, 10, 0, 0).count(4), 2);
        due("hidden by the stream", with(2, 1, 2, 0, 1, 1, 2, 0, 1).count(4), 0);
        due("and not", with(2, 1, 2, 0, 1, 2, 1, 0, 1).count(4), 1);
    }

    private static void countGroups() {
        Doc.promise(10, "5: GROUPS,");
        for (int n = 0; n <= 6; n++) {
            SeatRacing x = with(n);
            due("without races", x.count(5), n);
            for (int rower = n - 2; rower >= 0; rower--) {
                x.race(1 << n - 1, 1 << rower, 0, 0);
                due("from the last one to " + rower, x.count(5), rower + 1);
            }
        }
        due("0 with 2, 1 with 3", with(4, 1, 4, 0, 0, 2, 8, 0, 0).count(5), 2);
    }

    private static void countIndependent() {
        Doc.promise(10, "6: of how many RACES at most none's FORM is KNOWN by the others of these alone.");
        due("without races", with(6).count(6), 0);
        due("one", Scenes.duel(5).count(6), 1);
        due("the same one twice", Scenes.duel(5, 7).count(6), 1);
        due("the boats turned", with(2, 1, 2, 5, 0, 2, 1, 5, 0).count(6), 1);
        due("with the stream and without", with(2, 1, 2, 5, 0, 1, 2, 5, 1).count(6), 2);
        due("three streams", with(2, 1, 2, 5, 0, 1, 2, 5, 1, 1, 2, 5, -1).count(6), 2);
        due("a ring of three", with(3, 1, 2, 5, 0, 2, 4, 5, 0, 4, 1, 5, 0).count(6), 2);
        due("a ring of three, one with the stream", with(3, 1, 2, 5, 0, 2, 4, 5, 0, 4, 1, 5, 1).count(6), 3);
        due("six rowers and the drift", with(6, 1, 2, 0, 0, 2, 4, 0, 0, 4, 8, 0, 0, 8, 16, 0, 0, 16, 32, 0, 0, 1, 32, 0, 1,
            7, 56, 0, 1, 3, 48, 0, -1).count(6), 6);
    }

    private static void countOfAnother() {
        Doc.promise(10, "NONE for another what.");
        Scenes.refused(Scenes::busy, "count(-1)", x -> x.count(-1), -1);
        Scenes.refused(Scenes::busy, "count(7)", x -> x.count(7), -1);
        for (int what : Scenes.FAR) {
            due("count(" + what + ")", Scenes.full().count(what), -1);
        }
    }

    private static void raced() {
        Doc.promise(11, "Of a RACE, what 0: A, 1: B, 2: MARGIN, 3: STREAM.");
        int[] races = {7, 56, -999, -1, 32, 1, 999, 1, 5, 10, 0, 0};
        SeatRacing x = with(6, races);
        for (int i = 0; i < races.length; i++) {
            due("raced(" + i / 4 + ", " + i % 4 + ")", x.raced(i / 4, i % 4), races[i]);
        }
        due("the last of twelve", Scenes.full().raced(11, 2), 110);
    }

    private static void racedBeyond() {
        Doc.promise(11, "NoSuchElementException: there is none such,");
        Scenes.refused(Scenes::fresh, "raced(0, 0) of none", x -> Scenes.raced(x, 0, 0), Scenes.THROWS);
        Scenes.refused(Scenes::busy, "raced(7, 0) of 7", x -> Scenes.raced(x, 7, 0), Scenes.THROWS);
        Scenes.refused(Scenes::full, "raced(12, 0) of 12", x -> Scenes.raced(x, 12, 0), Scenes.THROWS);
        Scenes.refused(Scenes::full, "raced(-1, 0)", x -> Scenes.raced(x, -1, 0), Scenes.THROWS);
        Doc.promise(11, "another what.");
        Scenes.refused(Scenes::full, "raced(0, -1)", x -> Scenes.raced(x, 0, -1), Scenes.THROWS);
        Scenes.refused(Scenes::full, "raced(11, 4)", x -> Scenes.raced(x, 11, 4), Scenes.THROWS);
        for (int far : Scenes.FAR) {
            due("raced(" + far + ", 0)", Scenes.raced(Scenes.busy(), far, 0), Scenes.THROWS);
            due("raced(0, " + far + ")", Scenes.raced(Scenes.busy(), 0, far), Scenes.THROWS);
            due("raced(" + far + ", " + far + ")", Scenes.raced(Scenes.fresh(), far, far), Scenes.THROWS);
        }
    }
}
