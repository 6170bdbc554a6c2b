import java.util.List;

/** Term 3: texts, their tokens and their faults, each at its boundary. */
final class BoundaryTexts {
    /** What may stand behind each beginning of a text: INT, a word, a sign, or nothing more (END). */
    private static final String[][] GRAMMAR = {
        {"", "crew", "limit", "race", "END"},
        {"crew ", "INT"},
        {"crew 3 ", ";"},
        {"limit ", "INT"},
        {"limit 3 ", ";"},
        {"race ", "INT"},
        {"race 0 ", "INT", ":"},
        {"race 0 : ", "INT"},
        {"race 0 : 1 ", "INT", "by"},
        {"race 0 : 1 by ", "INT"},
        {"race 0 : 1 by 3 ", "up", "down", ";"},
        {"race 0 : 1 by 3 up ", ";"},
        {"race 0 : 1 by 3 down ", ";"},
        {"race 0 : 1 by 3 up ; ", "crew", "limit", "race", "END"},
        {"limit 4 ; ", "crew", "limit", "race", "END"},
        {"crew 6 ; ", "crew", "limit", "race", "END"},
    };
    private static final String[] WORDS = {"crew", "limit", "race", "by", "up", "down"};

    private BoundaryTexts() {
    }

    static void all() {
        size();
        statements();
        crewStatement();
        limitStatement();
        raceStatement();
        words();
        ints();
        singleBytes();
        blanks();
        goesOn();
        places();
        firstAlongTheText();
        leastOfOnePlace();
        cantStandThere();
        minusAlone();
        fourDigits();
        impossibleInts();
        toldAlready();
        thirteenth();
        fourthOfACrew();
        moreInB();
        fewerInB();
    }

    private static SeatRacing six() {
        return Scenes.with(6);
    }

    private static void due(String call, long got, long want) {
        Check.due(call, got, want);
    }

    private static void tells(String text, int statements) {
        Check.tells(six(), text, statements);
    }

    /** On a busy object: the fault, and that all but the tape and the fault is as it was. */
    private static void faults(String text, int kind, int place, int statement) {
        SeatRacing x = Scenes.busy();
        due("end(0)", x.end(0) ? 1 : 0, 1);
        Check.faults(x, text, kind, place, statement);
        Scenes.same("tell() of " + text, Scenes.picture(x, false), Scenes.picture(Scenes.busy(), false));
    }

    private static void raceIs(SeatRacing x, int race, int a, int b, int margin, int stream) {
        due("A of race " + race, x.raced(race, 0), a);
        due("B of race " + race, x.raced(race, 1), b);
        due("margin of race " + race, x.raced(race, 2), margin);
        due("stream of race " + race, x.raced(race, 3), stream);
    }

    private static void size() {
        Doc.term(3, "TEXTS, at most 300 bytes:");
        SeatRacing x = six();
        Check.put(x, Check.bytes(" ".repeat(292) + "limit 3;"));
        due("bytes", x.count(3), 300);
        due("feed of more", x.feed(0x20202020, 0x20202020, 0x20202020, 0x20202020, 0x20202020), -1);
        due("end(301)", x.end(301) ? 1 : 0, 0);
        due("tell", x.tell(), 1);
        due("limit", x.count(2), 3);
        Check.faults(x, " ".repeat(293) + "limit 4", 1, 300, 0);
        due("limit", x.count(2), 3);
    }

    private static void statements() {
        Doc.term(3, "{ STATEMENT ; }.");
        tells("", 0);
        tells("limit 3;", 1);
        tells("limit 3;limit 4;", 2);
        tells("crew0;".repeat(50), 50);
        faults("limit 3", 1, 7, 0);
        faults("limit 3;limit 4", 1, 15, 1);
        faults(";", 1, 0, 0);
        faults("limit 3;;", 1, 8, 1);
        faults("limit 3 limit 4;", 1, 8, 0);
    }

    private static void crewStatement() {
        Doc.term(3, "STATEMENT: crew INT (so many ROWERS, no RACES),");
        for (int n = 0; n <= 6; n++) {
            SeatRacing x = Scenes.duel(1, 2, 3);
            x.limit(50);
            Check.tells(x, "crew " + n + ";", 1);
            due("rowers", x.count(0), n);
            due("races", x.count(1), 0);
            due("limit", x.count(2), 50);
        }
        SeatRacing same = Scenes.duel(1, 2, 3);
        Check.tells(same, "crew 2;", 1);
        due("as many rowers as there are: no races", same.count(1), 0);
        due("nor anything that they told", same.count(4), 0);
    }

    private static void limitStatement() {
        Doc.term(3, "limit INT,");
        for (int limit : new int[] {1, 10, 99}) {
            SeatRacing x = Scenes.duel(5);
            Check.tells(x, "limit " + limit + ";", 1);
            due("limit", x.count(2), limit);
            due("races", x.count(1), 1);
        }
        tells("limit 5;limit 5;", 2);
    }

    private static void raceStatement() {
        Doc.term(3, "race INT { INT } : INT { INT } by INT [ up | down ] (A, B, MARGIN; up: STREAM 1, down: -1, else 0).");
        SeatRacing x = six();
        Check.tells(x, "race 5 : 0 by 999; race 0 2 : 1 5 by -999 up; race 5 4 3 : 2 1 0 by 0 down;", 3);
        raceIs(x, 0, 32, 1, 999, 0);
        raceIs(x, 1, 5, 34, -999, 1);
        raceIs(x, 2, 56, 7, 0, -1);
        faults("race : 0 by 1;", 1, 5, 0);
        faults("race 0 : by 1;", 1, 9, 0);
        faults("race 0 by 1;", 1, 7, 0);
        faults("race 0 : 1 by;", 1, 13, 0);
        faults("race 0 : 1 by up;", 1, 14, 0);
        faults("race 0 : 1 by 1 up up;", 1, 19, 0);
        faults("race 0 : 1 by 1 up down;", 1, 19, 0);
        faults("race 0 : 1 up;", 1, 11, 0);
    }

    private static void words() {
        Doc.term(3, "TOKENS: words (letters a to z, as many as stand there),");
        tells("crew4;limit5;race0:1by2up;race0:1by2down;", 4);
        faults("crewlimit 4;", 1, 0, 0);
        faults("crewz 4;", 1, 0, 0);
        faults("acrew 4;", 1, 0, 0);
        faults("cre w 4;", 1, 0, 0);
        faults("crew`4;", 1, 4, 0);
        faults("crew{4;", 1, 4, 0);
        faults("Crew 4;", 1, 0, 0);
        faults("crewZ4;", 1, 4, 0);
        faults("race 0 : 1 by 2 upup;", 1, 16, 0);
        faults("race 0 : 1 by 2 updown;", 1, 16, 0);
        faults("race 0 : 1 by 2 u", 1, 16, 0);
        faults("race 0 : 1 b 2;", 1, 11, 0);
        for (String word : WORDS) {
            String text = word.equals("up") || word.equals("down") ? "race 0:1 by 2 "
                : word.equals("by") ? "race 0:1 " : "";
            String behind = word.equals("by") || word.equals("crew") || word.equals("limit") ? " 4;"
                : word.equals("race") ? " 0:1 by 4;" : ";";
            tells(text + word + behind, 1);
            faults(text + word.substring(0, word.length() - 1) + behind, 1, text.length(), 0);
            faults(text + word.substring(1) + behind, 1, text.length(), 0);
            faults(text + word + "a" + behind, 1, text.length(), 0);
            faults(text + "z" + word.substring(1) + behind, 1, text.length(), 0);
            faults(text + word.substring(0, word.length() - 1) + "a" + behind, 1, text.length(), 0);
        }
    }

    private static void ints() {
        Doc.term(3, "INTS ( [ - ] digits, 1 to 3, as many as stand there),");
        String[] good = {"0", "9", "-9", "10", "99", "-10", "100", "999", "-999", "000", "-000", "007", "-007", "-0"};
        int[] values = {0, 9, -9, 10, 99, -10, 100, 999, -999, 0, 0, 7, -7, 0};
        for (int i = 0; i < good.length; i++) {
            SeatRacing x = six();
            Check.tells(x, "race 0:1by" + good[i] + "up;", 1);
            due("margin of " + good[i], x.raced(0, 2), values[i]);
        }
        faults("race 0:1 by 1000;", 1, 12, 0);
        faults("race 0:1 by -1000;", 1, 12, 0);
        faults("race 0:1 by 0000;", 1, 12, 0);
        faults("race 0:1 by -0000;", 1, 12, 0);
        faults("race 0:1 by 1 000;", 1, 14, 0);
        faults("race 0:1 by 1-1;", 1, 13, 0);
        faults("race 01:2 3 by 1;", 4, 10, 0);
        faults("race 0-1:2 3 by 1;", 2, 6, 0);
        faults("race 0:1 by 1/;", 1, 13, 0);
        faults("race 0:1 by 1:;", 1, 13, 0);
        faults("race 0:1 by +1;", 1, 12, 0);
        faults("race 0:1 by 1.5;", 1, 13, 0);
    }

    private static void singleBytes() {
        Doc.term(3, "single bytes;");
        tells("race 0:1by 3;", 1);
        faults("race 0::1 by 3;", 1, 7, 0);
        faults("crew 3;;", 1, 7, 1);
        for (int sign = 0; sign < 256; sign++) {
            String text = "crew 3" + (char) sign + ";";
            if (sign == ' ' || sign == '\n' || sign >= '0' && sign <= '9') {
                continue;
            }
            if (sign == ';') {
                Check.faults(six(), text, 1, 7, 1);
            } else {
                Check.faults(six(), text, 1, 6, 0);
            }
        }
    }

    private static void blanks() {
        Doc.term(3, "blanks (32, 10) between them as one likes.");
        tells(" \n limit \n\n 3 \n ; \n\n", 1);
        tells("limit\n3\n;\n", 1);
        tells("   ", 0);
        tells("\n", 0);
        SeatRacing x = six();
        Check.tells(x, "race 0 1:2 3by 7down;\nrace\n0\n1\n:\n2\n3\nby\n7\ndown\n;", 2);
        raceIs(x, 0, 3, 12, 7, -1);
        raceIs(x, 1, 3, 12, 7, -1);
        for (int sign : new int[] {9, 11, 12, 13, 31, 33, 0, 160, 133}) {
            faults("limit" + (char) sign + "3;", 1, 5, 0);
            faults((char) sign + "limit 3;", 1, 0, 0);
            faults("limit 3;" + (char) sign, 1, 8, 1);
        }
        faults("lim it 3;", 1, 0, 0);
        faults("limit 3 3;", 1, 8, 0);
    }

    private static void goesOn() {
        Doc.term(3, "A TEXT goes on from what there is.");
        SeatRacing x = Scenes.duel(10);
        Check.tells(x, "race 1 : 0 by 4;", 1);
        raceIs(x, 0, 1, 2, 10, 0);
        raceIs(x, 1, 2, 1, 4, 0);
        due("both count", x.difference(0, 1, false), 3);
        Check.tells(x, "limit 2;", 1);
        due("races", x.count(1), 2);
        due("surely by the limit that was told", x.rank(0, 2), 1);
        Check.faults(x, "race 0 : 2 by 1;", 2, 9, 0);
        Check.faults(x, "race 0 : 1 by 0;".repeat(11), 4, 160, 10);
        Check.tells(x, "race 0 : 1 by 0;".repeat(10), 10);
        due("races", x.count(1), 12);
        Check.tells(x, "crew 3;race 0 : 2 by 1;", 2);
        due("races", x.count(1), 1);
        Check.faults(new SeatRacing(), "race 0 : 1 by 1;", 2, 5, 0);
    }

    private static void places() {
        Doc.term(3, "FAULTS, told as kind and 8 times the place (a TOKEN's first byte; the end's: the text's length) together,");
        for (int blanks = 0; blanks < 299; blanks += 23) {
            Check.faults(six(), " ".repeat(blanks) + "x", 1, blanks, 0);
        }
        faults(" ".repeat(299) + "x", 1, 299, 0);
        faults("strange", 1, 0, 0);
        faults("crew 1234;", 1, 5, 0);
        faults("crew -1;", 2, 5, 0);
        faults("crew 100;", 2, 5, 0);
        faults("crew", 1, 4, 0);
        faults("crew \n ", 1, 7, 0);
        faults("crew 3", 1, 6, 0);
        faults("crew 3  ", 1, 8, 0);
        faults("crew" + " ".repeat(296), 1, 300, 0);
        faults("race 0 : 1 by 1 up", 1, 18, 0);
        SeatRacing cut = six();
        Check.put(cut, Check.bytes("crew 3;limit 5;"));
        due("end", cut.end(13) ? 1 : 0, 1);
        due("tell of what was cut off", cut.tell(), -1);
        due("its end", cut.fault(0), 1 + 8 * 13);
    }

    private static void firstAlongTheText() {
        Doc.term(3, "the first along the text,");
        faults("race 0 0 : 9 1 by 1234", 3, 7, 0);
        faults("race 9 0 : 0 1 by 1234", 2, 5, 0);
        faults("race 0 1 : 2 by 1234", 4, 13, 0);
        faults("crew 7; x", 2, 5, 0);
        faults("x; crew 7", 1, 0, 0);
        faults("limit 100 100", 2, 6, 0);
        faults("limit 5; limit 0; limit 100;", 2, 15, 1);
    }

    private static void leastOfOnePlace() {
        Doc.term(3, "of one place the least:");
        // A fourth in A: who is none, who was told already, who is just one too many.
        faults("race 0 1 2 6", 2, 11, 0);
        faults("race 0 1 2 1", 3, 11, 0);
        faults("race 0 1 2 3", 4, 11, 0);
        faults("race 0 1 2 1234", 1, 11, 0);
        // One more in B than in A, likewise.
        faults("race 0 : 1 6", 2, 11, 0);
        faults("race 0 : 1 0", 3, 11, 0);
        faults("race 0 : 1 1", 3, 11, 0);
        faults("race 0 : 1 2", 4, 11, 0);
        faults("race 0 : 1 -", 1, 11, 0);
        // A fourth in B: none of six is left.
        faults("race 0 1 2 : 3 4 5 0", 3, 19, 0);
        faults("race 0 1 2 : 3 4 5 6", 2, 19, 0);
        // A 13th race where none can stand; by where none can stand.
        Check.faults(Scenes.with(2), "race 0:1by 1;".repeat(12) + "limit 3 race", 1, 164, 12);
        faults("race 0 1 by", 1, 9, 0);
        faults("race 0 1 : by", 1, 11, 0);
    }

    private static boolean allows(String[] row, String kind) {
        return List.of(row).subList(1, row.length).contains(kind);
    }

    /** Each word, each sign, an INT and the end, behind each beginning that a statement can have. */
    private static void cantStandThere() {
        Doc.term(3, "1 what can't stand there");
        for (String[] row : GRAMMAR) {
            int statement = row[0].contains(";") ? 1 : 0;
            int place = row[0].length();
            for (int sign = 0; sign < 256; sign++) {
                char told = (char) sign;
                boolean isBlank = told == ' ' || told == '\n';
                boolean isDigit = told >= '0' && told <= '9';
                if (isBlank || isDigit || allows(row, String.valueOf(told))) {
                    continue;
                }
                Check.faults(six(), row[0] + told, 1, place, statement);
            }
            for (String word : WORDS) {
                if (!allows(row, word)) {
                    Check.faults(six(), row[0] + word, 1, place, statement);
                }
            }
            if (!allows(row, "INT")) {
                Check.faults(six(), row[0] + "2", 1, place, statement);
                Check.faults(six(), row[0] + "-2", 1, place, statement);
            }
            if (allows(row, "END")) {
                Check.tells(six(), row[0], statement);
            } else {
                Check.faults(six(), row[0], 1, place, statement);
            }
            Check.faults(six(), row[0] + "1234", 1, place, statement);
            Check.faults(six(), row[0] + "strange", 1, place, statement);
        }
    }

    private static void minusAlone() {
        Doc.term(3, "(a - without a digit right behind it,");
        tells("race 0 : 1 by -1;", 1);
        faults("race 0 : 1 by - 1;", 1, 14, 0);
        faults("race 0 : 1 by --1;", 1, 14, 0);
        faults("race 0 : 1 by -;", 1, 14, 0);
        faults("race 0 : 1 by -", 1, 14, 0);
        faults("race 0 : 1 by -\n1;", 1, 14, 0);
        faults("race 0 : 1 by -x", 1, 14, 0);
        faults("race 0 : 1 by 1 -;", 1, 16, 0);
        SeatRacing cut = six();
        Check.put(cut, Check.bytes("race 0 : 1 by -1;"));
        due("end", cut.end(15) ? 1 : 0, 1);
        due("tell, the digit cut off", cut.tell(), -1);
        due("its fault", cut.fault(0), 1 + 8 * 14);
    }

    private static void fourDigits() {
        Doc.term(3, "four digits and more, too).");
        tells("race 000 : 001 by 999;", 1);
        faults("race 0000 : 1 by 1;", 1, 5, 0);
        faults("race 0 : 0001 by 1;", 1, 9, 0);
        faults("crew 0004;", 1, 5, 0);
        faults("crew -0000;", 1, 5, 0);
        faults("limit 0010;", 1, 6, 0);
        faults("race 0 : 1 by 1000;", 1, 14, 0);
        faults("race 0 : 1 by -1000;", 1, 14, 0);
        faults("limit " + "1".repeat(294), 1, 6, 0);
        faults("limit 4294967297;", 1, 6, 0);
        faults("limit 18446744073709551617;", 1, 6, 0);
    }

    private static void impossibleInts() {
        Doc.term(3, "2 an INT that can't be (crew 0 to 6;");
        tells("crew 0;crew 6;", 2);
        faults("crew -1;", 2, 5, 0);
        faults("crew 7;", 2, 5, 0);
        faults("crew 999;", 2, 5, 0);
        faults("crew -999;", 2, 5, 0);
        Doc.term(3, "LIMIT;");
        tells("limit 1;limit 99;", 2);
        faults("limit 0;", 2, 6, 0);
        faults("limit 100;", 2, 6, 0);
        faults("limit -1;", 2, 6, 0);
        Doc.term(3, "no such ROWER;");
        for (int n = 2; n <= 6; n++) {
            Check.tells(Scenes.with(n), "race 0:" + (n - 1) + " by 1;", 1);
            Check.faults(Scenes.with(n), "race 0:" + n + " by 1;", 2, 7, 0);
            Check.faults(Scenes.with(n), "race " + n + ":0 by 1;", 2, 5, 0);
            Check.faults(Scenes.with(n), "race 0:-1 by 1;", 2, 7, 0);
            Check.faults(Scenes.with(6), "crew " + n + ";race 0:" + n + " by 1;", 2, 14, 1);
        }
        faults("race 32 : 0 by 1;", 2, 5, 0);
        faults("race 0 : 64 by 1;", 2, 9, 0);
        Doc.term(3, "MARGIN by itself always can).");
        for (int margin : new int[] {-999, -1, 0, 1, 999}) {
            SeatRacing x = six();
            Check.tells(x, "race 0 : 1 by " + margin + ";", 1);
            due("margin", x.raced(0, 2), margin);
        }
        faults("race 0 : 1 by 1000;", 1, 14, 0);
    }

    private static void toldAlready() {
        Doc.term(3, "3 a ROWER told already in that RACE.");
        tells("race 0 1 2 : 3 4 5 by 1; race 0 1 2 : 3 4 5 by 1;", 2);
        faults("race 0 0 : 1 2 by 1;", 3, 7, 0);
        faults("race 0 1 0 : 1 2 3 by 1;", 3, 9, 0);
        faults("race 0 : 0 by 1;", 3, 9, 0);
        faults("race 0 1 : 2 1 by 1;", 3, 13, 0);
        faults("race 0 1 : 2 2 by 1;", 3, 13, 0);
        faults("race 0 1 : 2 002 by 1;", 3, 13, 0);
        faults("race 0 -0 : 2 3 by 1;", 3, 7, 0);
        faults("race 0 1 2 : 3 4 3 by 1;", 3, 17, 0);
    }

    private static void thirteenth() {
        Doc.term(3, "4 a 13th RACE (at race);");
        String one = "race 0:1 by 1;";
        Check.tells(six(), one.repeat(12), 12);
        Check.faults(six(), one.repeat(13), 4, 168, 12);
        Check.faults(six(), one.repeat(12) + " race", 4, 169, 12);
        Check.faults(six(), one.repeat(12) + "race 9 9", 4, 168, 12);
        Check.faults(six(), one.repeat(12) + "racer", 1, 168, 12);
        Check.tells(six(), one.repeat(12) + "crew 2;" + one, 14);
        for (int there = 0; there <= 12; there++) {
            SeatRacing x = six();
            for (int race = 0; race < there; race++) {
                x.race(1, 2, race, 0);
            }
            Check.faults(x, one.repeat(13 - there), 4, 14 * (12 - there), 12 - there);
            due("races", x.count(1), there);
            Check.tells(x, one.repeat(12 - there), 12 - there);
            due("races", x.count(1), 12);
        }
    }

    private static void fourthOfACrew() {
        Doc.term(3, "a fourth ROWER of a CREW (at him);");
        tells("race 0 1 2 : 3 4 5 by 1;", 1);
        faults("race 0 1 2 3 : 4 5 by 1;", 4, 11, 0);
        faults("race 5 4 3 2", 4, 11, 0);
        faults("race 0 1 2 3 4", 4, 11, 0);
        faults("race 0 1 2 : 3 4 5 0 by 1;", 3, 19, 0);
    }

    private static void moreInB() {
        Doc.term(3, "one who is more in B than in A (at him);");
        tells("race 0 : 1 by 1;race 0 2 : 1 3 by 1;", 2);
        faults("race 0 : 1 2 by 1;", 4, 11, 0);
        faults("race 0 : 1 2 3 by 1;", 4, 11, 0);
        faults("race 0 2 : 1 3 4 by 1;", 4, 15, 0);
    }

    private static void fewerInB() {
        Doc.term(3, "at by: there are fewer in B than in A.");
        tells("race 0 1 : 2 3 by 1;", 1);
        faults("race 0 1 : 2 by 1;", 4, 13, 0);
        faults("race 0 1 2 : 3 by 1;", 4, 15, 0);
        faults("race 0 1 2 : 3 4 by 1;", 4, 17, 0);
        faults("race 0 1 : 2 by", 4, 13, 0);
        faults("race 0 1 : 2", 1, 12, 0);
        faults("race 0 1 : 2;", 1, 12, 0);
        faults("race 0 1 : 2 bye", 1, 13, 0);
    }
}
