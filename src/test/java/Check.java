import java.nio.charset.StandardCharsets;

/** What all tests share: answers that are due, and texts put on the tape. */
final class Check {
    private static int asked = 0;
    private static int wrong = 0;

    private Check() {
    }

    static void due(String call, long got, long want) {
        asked++;
        if (got != want) {
            wrong++;
            System.out.println(call + " answered " + got + ", due is " + want);
        }
    }

    /** Puts a text on the tape in place of what is there. */
    static void tape(GooseShares x, String text) {
        tape(x, text.getBytes(StandardCharsets.ISO_8859_1));
    }

    static void tape(GooseShares x, byte[] bytes) {
        x.end(0);
        for (int from = 0; from < bytes.length; from += 20) {
            x.feed(four(bytes, from), four(bytes, from + 4), four(bytes, from + 8),
                    four(bytes, from + 12), four(bytes, from + 16));
        }
        due("end behind feed", x.end(bytes.length), bytes.length);
    }

    static int four(byte[] bytes, int from) {
        int number = 0;
        for (int i = from; i < from + 4; i++) {
            number = number << 8 | (i < bytes.length ? bytes[i] & 255 : 0);
        }
        return number;
    }

    static int land(GooseShares x, String text) {
        tape(x, text);
        return x.land();
    }

    /** A new object with this land, which must be without a fault. */
    static GooseShares with(String text) {
        GooseShares x = new GooseShares();
        int lines = land(x, text);
        due("land of " + text, lines < 0 ? -1 : 0, 0);
        return x;
    }

    static void row(GooseShares x, int slot, int width, long... numbers) {
        due("row", x.row(slot, width, numbers.length), 0);
        for (int i = 0; i < numbers.length; i++) {
            due("write", x.write(slot, i, numbers[i]), 0);
        }
    }

    static void finish() {
        System.out.println(wrong == 0 ? asked + " answers are as due" : wrong + " answers are not as due");
        if (wrong != 0) {
            System.exit(1);
        }
    }
}
