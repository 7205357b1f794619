import java.nio.charset.StandardCharsets;
import java.util.function.IntUnaryOperator;

/** Holds answers against the ones that are due, and feeds texts. */
final class Due {
    private final String test;
    private int asked;
    private int wrong;

    Due(String test) {
        this.test = test;
    }

    void is(String call, long want, long got) {
        asked++;
        if (got != want) {
            wrong++;
            System.out.println(test + ": " + call + " answered " + got + ", due is " + want);
        }
    }

    /** A call with 0, 1, 2, .. as its last argument; its text is open at the end. */
    void row(String call, int[] want, IntUnaryOperator got) {
        for (int i = 0; i < want.length; i++) {
            is(call + i + ")", want[i], got.applyAsInt(i));
        }
    }

    /** One answer for each of several last arguments. */
    void all(String call, int want, IntUnaryOperator got, int... arguments) {
        for (int argument : arguments) {
            is(call + argument + ")", want, got.applyAsInt(argument));
        }
    }

    int asked() {
        return asked;
    }

    int wrong() {
        return wrong;
    }

    /** The last call of a test without sentences: exit code 1 if one answer was not as due. */
    void close() {
        System.out.println(wrong == 0 ? asked + " answers are as due" : wrong + " of " + asked + " answers are not as due");
        if (wrong != 0) {
            System.exit(1);
        }
    }

    static int[] ints(int... numbers) {
        return numbers;
    }

    /** Feeds a text behind what the TAPE has; answers how many bytes it has then. */
    static int tell(WordSeats x, String text) {
        byte[] bytes = text.getBytes(StandardCharsets.ISO_8859_1);
        int length = x.count(10);
        for (int at = 0; at < bytes.length; at += 20) {
            int[] five = new int[5];
            for (int i = 0; i < 20; i++) {
                int b = at + i < bytes.length ? bytes[at + i] & 255 : 0;
                five[i / 4] |= b << 24 - 8 * (i % 4);
            }
            x.feed(five[0], five[1], five[2], five[3], five[4]);
        }
        return x.end(length + bytes.length);
    }

    /** A SLOT has these numbers. */
    static void lay(WordSeats x, int slot, int width, long... numbers) {
        x.row(slot, width, numbers.length);
        for (int i = 0; i < numbers.length; i++) {
            x.write(slot, i, numbers[i]);
        }
    }

    /** A new object with the CHAMBER of a text. */
    static WordSeats chamber(String text) {
        WordSeats x = new WordSeats();
        tell(x, text);
        int lines = x.chamber();
        if (lines < 1) {
            throw new IllegalArgumentException("chamber() answered " + lines + ", fault " + x.fault(0) + " at " + x.fault(1)
                + ": " + text);
        }
        return x;
    }
}
