import java.nio.charset.StandardCharsets;
import java.util.Arrays;

/** What all tests use: counting wrong answers, and feeding texts. */
final class Check {
    private static int wrong = 0;
    private static int looked = 0;

    private Check() {
    }

    static void due(String call, long got, long want) {
        looked++;
        if (got != want) {
            wrong++;
            System.out.println(call + " answered " + got + ", due is " + want);
        }
    }

    static void due(String call, boolean got, boolean want) {
        due(call, got ? 1 : 0, want ? 1 : 0);
    }

    static void fail(String what) {
        looked++;
        wrong++;
        System.out.println(what);
    }

    static int looked() {
        return looked;
    }

    /** Both numbers of a fraction. */
    static void fraction(String call, long upper, long lower, long wantUpper, long wantLower) {
        due(call + ", upper", upper, wantUpper);
        due(call + ", lower", lower, wantLower);
    }

    static void done(String test) {
        System.out.println(test + ": " + looked + " looked at, " + wrong + " wrong");
        if (wrong != 0) {
            System.exit(1);
        }
    }

    /** The five numbers of feed() for each twenty bytes of a text, blanks behind its end. */
    static int[][] numbers(byte[] text) {
        int[][] numbers = new int[(text.length + 19) / 20][5];
        byte[] padded = Arrays.copyOf(text, numbers.length * 20);
        Arrays.fill(padded, text.length, padded.length, (byte) ' ');
        for (int i = 0; i < padded.length; i++) {
            numbers[i / 20][i % 20 / 4] |= (padded[i] & 255) << 24 - 8 * (i % 4);
        }
        return numbers;
    }

    /** Puts a text on the tape, which is empty. */
    static void put(SeatRacing x, byte[] text) {
        for (int[] five : numbers(text)) {
            x.feed(five[0], five[1], five[2], five[3], five[4]);
        }
        due("end(" + text.length + ")", x.end(text.length), true);
    }

    static byte[] bytes(String text) {
        return text.getBytes(StandardCharsets.ISO_8859_1);
    }

    /** Tells a text that has so many statements and no fault. */
    static void tells(SeatRacing x, String text, int statements) {
        put(x, bytes(text));
        due("tell() of " + text, x.tell(), statements);
        due("fault(0) of " + text, x.fault(0), 0);
        due("fault(1) of " + text, x.fault(1), -1);
        due("count(3) behind tell()", x.count(3), 0);
    }

    /** Tells a text with a fault of a kind at a place, in a statement. */
    static void faults(SeatRacing x, String text, int kind, int place, int statement) {
        put(x, bytes(text));
        due("tell() of " + text, x.tell(), -1);
        due("fault(0) of " + text, x.fault(0), kind + 8 * place);
        due("fault(1) of " + text, x.fault(1), statement);
        due("count(3) behind tell()", x.count(3), 0);
    }
}
