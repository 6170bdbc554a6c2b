import java.util.Random;

/** Texts that are often right, and often wrong in one place. */
final class ReferenceTexting {
    private static final String[] STRANGE = {
        "crew", "limit", "race", "by", "up", "down", ":", ";", "-", "--1", "1000", "-1000", "999", "-999", "0", "-0",
        "07", "1", "2", "3", "6", "7", "100", "x", "crews", "BY", "\t", "\r", "\u00e9", "\u0000", "b", "byup", "0001",
    };

    private final Random random;
    private final StringBuilder text = new StringBuilder();
    private int n;

    ReferenceTexting(Random random, int n) {
        this.random = random;
        this.n = n;
    }

    String text() {
        for (int statements = random.nextInt(7); statements > 0 && text.length() < 200; statements--) {
            statement();
        }
        blanks(0);
        if (text.length() > 0 && random.nextInt(8) == 0) {
            text.setLength(random.nextInt(text.length()));
        }
        if (random.nextInt(12) == 0) {
            text.insert(random.nextInt(text.length() + 1), STRANGE[random.nextInt(STRANGE.length)]);
        }
        return text.substring(0, Math.min(300, text.length()));
    }

    private void blanks(int least) {
        int blanks = least + (random.nextInt(6) == 0 ? random.nextInt(4) : 0);
        for (int i = 0; i < blanks; i++) {
            text.append(random.nextInt(5) == 0 ? '\n' : ' ');
        }
    }

    private void put(String token) {
        if (random.nextInt(60) == 0) {
            token = STRANGE[random.nextInt(STRANGE.length)];
        } else if (random.nextInt(80) == 0) {
            return;
        }
        boolean joins = text.length() > 0 && Character.isLetterOrDigit(text.charAt(text.length() - 1))
            && Character.isLetterOrDigit(token.charAt(0)) && random.nextInt(40) != 0;
        blanks(joins ? 1 : 0);
        text.append(token);
    }

    private void statement() {
        switch (random.nextInt(9)) {
            case 0:
                n = random.nextInt(15) == 0 ? random.nextInt(1200) - 100 : 2 + random.nextInt(5);
                put("crew");
                put(Integer.toString(n));
                n = Math.max(1, Math.min(6, n));
                break;
            case 1:
                put("limit");
                put(Integer.toString(random.nextInt(8) == 0 ? random.nextInt(300) - 100 : 1 + random.nextInt(99)));
                break;
            default:
                race();
                break;
        }
        put(";");
    }

    private void race() {
        put("race");
        int size = 1 + random.nextInt(Math.max(1, Math.min(3, n / 2)));
        int taken = crew(size + (random.nextInt(20) == 0 ? 1 : 0), 0);
        put(":");
        crew(size + (random.nextInt(20) == 0 ? random.nextInt(3) - 1 : 0), taken);
        put("by");
        put(Integer.toString(random.nextInt(2010) - 1005));
        int stream = random.nextInt(3);
        if (stream != 0) {
            put(stream == 1 ? "up" : "down");
        }
    }

    private int crew(int size, int taken) {
        for (int seat = 0; seat < size; seat++) {
            int rower = random.nextInt(Math.max(1, n));
            for (int tries = 0; tries < 50 && (taken >> rower & 1) == 1; tries++) {
                rower = random.nextInt(Math.max(1, n));
            }
            taken |= 1 << rower;
            put(Integer.toString(random.nextInt(40) == 0 ? random.nextInt(8) - 1 : rower));
        }
        return taken;
    }
}
