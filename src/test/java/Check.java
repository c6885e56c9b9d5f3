import java.nio.charset.StandardCharsets;
import java.util.Arrays;

/** What all tests share: counting answers that are not as due, and feeding a text. */
final class Check {
    private int good = 0;
    private int wrong = 0;

    void due(String what, long got, long want) {
        if (got == want) {
            good++;
            return;
        }
        wrong++;
        if (wrong <= 40) {
            System.out.println(what + " answered " + got + ", due is " + want);
        }
    }

    void due(String what, boolean got, boolean want) {
        due(what, got ? 1 : 0, want ? 1 : 0);
    }

    /** Prints the closing line and ends the program with 1 if an answer was wrong. */
    void close(String name) {
        System.out.println(name + ": " + good + " passed, " + wrong + " failed");
        if (wrong != 0) {
            System.exit(1);
        }
    }

    static void feed(BorderStones x, String text) {
        byte[] bytes = text.getBytes(StandardCharsets.ISO_8859_1);
        byte[] padded = Arrays.copyOf(bytes, (bytes.length + 19) / 20 * 20);
        for (int i = 0; i < padded.length; i += 20) {
            x.feed(number(padded, i), number(padded, i + 4), number(padded, i + 8), number(padded, i + 12), number(padded, i + 16));
        }
        if (!x.end(bytes.length)) {
            throw new IllegalStateException("the tape took no " + bytes.length + " bytes");
        }
    }

    private static int number(byte[] b, int i) {
        return (b[i] & 255) << 24 | (b[i + 1] & 255) << 16 | (b[i + 2] & 255) << 8 | b[i + 3] & 255;
    }

    /** A new object with this border. */
    static BorderStones with(String text) {
        BorderStones x = new BorderStones();
        feed(x, text);
        if (x.border() == BorderStones.NONE) {
            throw new IllegalStateException("fault " + x.fault(0) + " at " + x.fault(1) + " in: " + text);
        }
        return x;
    }
}
