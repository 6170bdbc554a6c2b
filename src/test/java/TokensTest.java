/**
 * Each row of up to eight tokens, told as a text to the class and to the reference. A row is made
 * longer only while it has no fault ahead of its end: what follows a fault is not looked at.
 */
public final class TokensTest {
    private static final int LONGEST = 8;
    private static final String[] TOKENS = {
        "crew", "limit", "race", "by", "up", "down", ":", ";", "0", "1", "2", "3", "6", "99", "100", "1000",
        "-1", "-0", "-", "x",
    };

    private TokensTest() {
    }

    public static void main(String[] args) {
        tellAll(0, 0, "", 0);
        tellAll(4, 0, "", 0);
        tellAll(4, 11, "", 0);
        Check.done("TokensTest");
    }

    private static void tellAll(int rowers, int races, String text, int tokens) {
        int fault = tellBoth(rowers, races, text);
        if (tokens == LONGEST || fault != 0 && fault / 8 < text.length()) {
            return;
        }
        for (String token : TOKENS) {
            tellAll(rowers, races, text.isEmpty() ? token : text + " " + token, tokens + 1);
        }
    }

    private static int tellBoth(int rowers, int races, String text) {
        SeatRacing x = new SeatRacing();
        Reference y = new Reference();
        x.crew(rowers);
        y.crew(rowers);
        for (int race = 0; race < races; race++) {
            x.race(1, 2, race, 0);
            y.race(1, 2, race, 0);
        }
        byte[] bytes = Check.bytes(text);
        for (int[] five : Check.numbers(bytes)) {
            x.feed(five[0], five[1], five[2], five[3], five[4]);
            y.feed(five[0], five[1], five[2], five[3], five[4]);
        }
        x.end(bytes.length);
        y.end(bytes.length);
        Check.due("tell() of " + text, x.tell(), y.tell());
        Check.due("fault(0) of " + text, x.fault(0), y.fault(0));
        Check.due("fault(1) of " + text, x.fault(1), y.fault(1));
        for (int what = 0; what < 4; what++) {
            Check.due("count(" + what + ") behind " + text, x.count(what), y.count(what));
        }
        for (int race = 0; race < y.races.size(); race++) {
            for (int what = 0; what < 4; what++) {
                Check.due("raced(" + race + ", " + what + ") behind " + text, x.raced(race, what), y.raced(race, what));
            }
        }
        return y.fault(0);
    }
}
