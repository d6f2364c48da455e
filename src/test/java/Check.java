import java.nio.charset.StandardCharsets;

/** What the tests share: telling wrong answers, and feeding texts. */
final class Check {
    private static int wrong = 0;
    private static int asked = 0;

    private Check() {
    }

    static void due(String call, long want, long got) {
        asked++;
        if (want != got) {
            wrong++;
            System.out.println(call + " answered " + got + ", due is " + want);
        }
    }

    static void finish() {
        System.out.println((asked - wrong) + " answers of " + asked + " are as due");
        if (wrong != 0 || asked == 0) {
            System.exit(1);
        }
    }

    /** Feeds a text and cuts off what fills up the last twenty bytes. */
    static void feed(StrawButts x, String text) {
        x.end(0);
        byte[] bytes = text.getBytes(StandardCharsets.ISO_8859_1);
        int[] five = new int[5];
        for (int at = 0; at < bytes.length; at += 20) {
            for (int i = 0; i < 5; i++) {
                five[i] = 0;
                for (int j = 0; j < 4; j++) {
                    int where = at + 4 * i + j;
                    five[i] = five[i] << 8 | (where < bytes.length ? bytes[where] & 255 : 0);
                }
            }
            x.feed(five[0], five[1], five[2], five[3], five[4]);
        }
        x.end(bytes.length);
    }

    static int green(StrawButts x, String text) {
        feed(x, text);
        return x.green();
    }

    static int rule(StrawButts x, String text) {
        feed(x, text);
        return x.rule();
    }

    static StrawButts on(String text) {
        StrawButts x = new StrawButts();
        int archers = green(x, text);
        if (archers < 0) {
            throw new IllegalArgumentException(text + " is no green: " + archers);
        }
        return x;
    }

    /** The answer that tells a fault. */
    static int fault(int place, int kind) {
        return -2 - (1 + 8 * place + kind);
    }
}
