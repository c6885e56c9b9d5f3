import java.io.IOException;
import java.io.UncheckedIOException;
import java.nio.charset.StandardCharsets;
import java.nio.file.Files;
import java.nio.file.Path;
import java.util.Arrays;

/** What all tests share: counting answers that are not as due, feeding a text, and looking at all that is told. */
final class Check {
    private int good = 0;
    private int wrong = 0;
    private String document;
    private String sentence = "";

    void due(String what, long got, long want) {
        if (got == want) {
            good++;
            return;
        }
        complain(what + " answered " + got + ", due is " + want);
    }

    void due(String what, boolean got, boolean want) {
        due(what, got ? 1 : 0, want ? 1 : 0);
    }

    void due(String what, String got, String want) {
        if (got.equals(want)) {
            good++;
            return;
        }
        complain(what + " answered\n  " + got + "\ndue is\n  " + want);
    }

    private void complain(String what) {
        wrong++;
        if (wrong <= 40) {
            System.out.println(sentence + what);
        }
    }

    /** What follows holds the class to these words; they stand so in the document. */
    void says(String words) {
        sentence = "";
        due("the document says \"" + words + "\"", document().contains(words), true);
        sentence = "\"" + words + "\": ";
    }

    private String document() {
        if (document == null) {
            try {
                document = Files.readString(Path.of("../shared/DOC.md"));
            } catch (IOException e) {
                throw new UncheckedIOException(e);
            }
        }
        return document;
    }

    /** A text whose fault is at where the bar stands. */
    void fault(int kind, String marked) {
        int at = marked.indexOf('|');
        String text = marked.substring(0, at) + marked.substring(at + 1);
        BorderStones x = new BorderStones();
        feed(x, text);
        due("border of " + text, x.border(), -1);
        due("fault(0) of " + text, x.fault(0), kind);
        due("fault(1) of " + text, x.fault(1), at);
        due("fault(2) of " + text, x.fault(2), -1);
        due("fault(-1) of " + text, x.fault(-1), -1);
        due("has(0) of " + text, x.has(0), 0);
    }

    void fine(int statements, String text) {
        BorderStones x = new BorderStones();
        feed(x, text);
        due("border of " + text, x.border(), statements);
        due("fault(0) of " + text, x.fault(0), 0);
        due("fault(1) of " + text, x.fault(1), -1);
    }

    /** Prints the closing line and ends the program with 1 if an answer was wrong. */
    void close(String name) {
        System.out.println(name + ": " + good + " passed, " + wrong + " failed");
        if (wrong != 0) {
            System.exit(1);
        }
    }

    static void feed(BorderStones x, String text) {
        byte[] bytes = text.getBytes(StandardCharsets.ISO_8859_1);
        byte[] padded = Arrays.copyOf(bytes, (bytes.length + 19) / 20 * 20);
        for (int i = 0; i < padded.length; i += 20) {
            x.feed(number(padded, i), number(padded, i + 4), number(padded, i + 8), number(padded, i + 12), number(padded, i + 16));
        }
        if (!x.end(bytes.length)) {
            throw new IllegalStateException("the tape took no " + bytes.length + " bytes");
        }
    }

    private static int number(byte[] b, int i) {
        return (b[i] & 255) << 24 | (b[i + 1] & 255) << 16 | (b[i + 2] & 255) << 8 | b[i + 3] & 255;
    }

    /** A new object with this border. */
    static BorderStones with(String text) {
        BorderStones x = new BorderStones();
        feed(x, text);
        if (x.border() == BorderStones.NONE) {
            throw new IllegalStateException("fault " + x.fault(0) + " at " + x.fault(1) + " in: " + text);
        }
        return x;
    }

    /** All that is told of the field as it is, but for how many DAYS can be undone. */
    static String all(BorderStones x) {
        StringBuilder told = new StringBuilder();
        for (int what = 0; what < 8; what++) {
            told.append(x.has(what)).append(' ');
        }
        for (int kind = 0; kind < x.has(2); kind++) {
            told.append('|');
            for (int k = 0; k < 6; k++) {
                told.append(x.letter(kind, k)).append(' ');
            }
            for (int what = 0; what < 4; what++) {
                told.append(x.kind(kind, what)).append(' ');
            }
        }
        for (int place = 0; place < x.has(0) * x.has(1); place++) {
            told.append('|');
            for (int what = 0; what < 8; what++) {
                told.append(x.place(place, what)).append(' ');
            }
        }
        for (int side = 0; side < 2; side++) {
            told.append('|');
            for (int what = 0; what < 7; what++) {
                told.append(x.side(side, what)).append(' ');
            }
        }
        return told.toString();
    }

    /** What the calls answer that ask what would be: threats, lines, plays, truces, rows, rain, and an image. */
    static String asked(BorderStones x) {
        StringBuilder told = new StringBuilder();
        int places = x.has(0) * x.has(1);
        for (int kind = 0; kind < x.has(2); kind++) {
            for (int place = 0; place < places; place++) {
                told.append(x.threat(kind, place, 0)).append(x.threat(kind, place, 1)).append(x.threat(kind, place, 2)).append(' ');
            }
            told.append(x.fork(kind)).append('|');
        }
        for (int first = 0; first < places; first++) {
            for (int second = 0; second < places; second++) {
                told.append(x.line(first, second));
            }
            told.append(x.hidden(0x3F7L, 0, 2, first, -1)).append(x.hidden(0x3F7L, 1, 3, first, first)).append(x.look(0x3F7L, 0, 3, first));
        }
        for (int n = 1; n <= 3; n++) {
            told.append('|').append(x.play(n, 0)).append(' ').append(x.play(n, 1));
            for (int rule = 0; rule < 3; rule++) {
                told.append(' ').append(x.thumb(rule, n, 0)).append(' ').append(x.thumb(rule, n, 1));
            }
        }
        for (int k = -1; k < 3; k++) {
            told.append(' ').append(x.truce(k)).append(' ').append(x.answer(k));
        }
        told.append(' ').append(x.rows());
        for (int k = x.image() - 1; k >= 0; k--) {
            told.append(' ').append(x.octet(k));
        }
        return told.toString();
    }
}
