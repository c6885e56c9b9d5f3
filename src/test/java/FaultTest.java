import java.util.ArrayList;
import java.util.Collections;
import java.util.List;
import java.util.Random;

/** Random texts, most of them broken: what border() and fault() tell (promises 4, 5), against a second reader. */
public final class FaultTest {
    private static final Check CHECK = new Check();
    private static final String[] PIECES = {"field", "kind", "reach", "high", "sunk", "child", "stone", "red", "blue", "at", "land", "worth",
        "when", "or", "and", "not", "all", "across", "down", "edge", "min", "max", "a", "b", "bb", "abcdef", "abcdefg", "kinds", "no", "0", "1",
        "3", "7", "0004", "9999", "00001", "12345", ";", ";;", "(", ")", "[", "]", ",", "<", ">", "=", "+", "-", "*", "/", " ", "\n", "\t", "A",
        "", "END"};
    private static final String[] NAMES = {"a", "b", "bb", "abcdef", "kin", "fields", "c", "d", "e"};
    private static final int[] SEEN = new int[6];
    private static Random random;
    private static StringBuilder text;
    private static int wide;
    private static int high;
    private static int kinds;
    private static List<Integer> free;

    public static void main(String[] args) {
        for (int run = 0; run < 60000; run++) {
            random = new Random(run);
            makeText();
            if (run % 4 != 0) {
                breakText();
            }
            if (text.length() <= 1600) {
                hold(text.toString());
            }
        }
        for (int kind = 0; kind < SEEN.length; kind++) {
            CHECK.due("texts with fault " + kind + " (" + SEEN[kind] + ") are enough", SEEN[kind] > 500, true);
        }
        CHECK.close("FaultTest");
    }

    private static void hold(String told) {
        Grammar due = new Grammar(told);
        BorderStones x = new BorderStones();
        Check.feed(x, told);
        String name = " of " + told.replace('\n', '~');
        CHECK.due("border()" + name, x.border(), due.fault == 0 ? due.statements : -1);
        CHECK.due("fault(0)" + name, x.fault(0), due.fault);
        CHECK.due("fault(1)" + name, x.fault(1), due.place);
        SEEN[due.fault]++;
    }

    // ---- texts, sound but for numbers, names and counts that now and then can't be

    private static void makeText() {
        text = new StringBuilder();
        wide = rare(60) ? random.nextInt(10) : 3 + random.nextInt(4);
        high = rare(60) ? random.nextInt(10) : 3 + random.nextInt(4);
        kinds = 0;
        free = new ArrayList<>();
        for (int place = 0; place < wide * high; place++) {
            free.add(place);
        }
        Collections.shuffle(free, random);
        add("field", "" + wide, "" + high, ";");
        // Now and then one sort of STATEMENT above all, as many as can be or a few more.
        int sort = random.nextInt(24);
        int statements = sort == 0 ? 78 + random.nextInt(5) : sort == 1 ? 22 + random.nextInt(4) : sort == 2 ? 7 + random.nextInt(4) : random.nextInt(14);
        int most = rare(3) ? 5 + random.nextInt(2) : 1 + random.nextInt(3);
        for (int i = 1; i < statements; i++) {
            addStatement(sort < 3 ? rare(20) ? 3 : sort : 3, most);
        }
    }

    private static void addStatement(int sort, int most) {
        if (kinds == 0 || kinds < most && sort == 3 && random.nextBoolean()) {
            addKind();
        } else if (sort == 0 || sort == 3 && rare(4)) {
            add("land", side(), "at", spot(wide), spot(high), ";");
        } else if (sort == 1 || sort == 3 && rare(2)) {
            addStone();
        } else {
            addWorth();
        }
    }

    private static void addStone() {
        add("stone", rare(60) ? "no" : NAMES[random.nextInt(kinds)], side(), "at");
        if (free.isEmpty() || rare(60)) {
            add(spot(wide), spot(high), ";");
        } else {
            int place = free.remove(0);
            add("" + place % wide, "" + place / wide, ";");
        }
    }

    private static boolean rare(int one) {
        return random.nextInt(one) == 0;
    }

    private static String side() {
        return random.nextBoolean() ? "red" : "blue";
    }

    private static String spot(int bound) {
        return rare(60) ? "" + bound : "" + random.nextInt(Math.max(1, bound));
    }

    private static void addKind() {
        add("kind", rare(30) ? NAMES[random.nextInt(NAMES.length)] : NAMES[kinds], "reach", rare(50) ? "" + 7 * random.nextInt(2) : "" + (1 + random.nextInt(6)));
        kinds = Math.min(kinds + 1, NAMES.length - 1);
        String[] marks = {"high", "sunk", "child"};
        for (String mark : marks) {
            if (rare(3)) {
                add(rare(20) ? marks[random.nextInt(3)] : mark);
            }
        }
        add(";");
    }

    private static void addWorth() {
        int deep = rare(3) ? 10 : 2;
        add("worth");
        addSum(deep);
        add("when");
        addTest(deep);
        add(";");
    }

    private static void addSum(int deep) {
        addPart(deep);
        for (int i = random.nextInt(5) - 2; i > 0; i--) {
            add("+-*/".substring(random.nextInt(4)).substring(0, 1));
            addPart(deep - 2);
        }
    }

    private static void addPart(int deep) {
        if (deep > 0 && random.nextInt(deep + 2) > 1) {
            if (rare(4)) {
                add(random.nextBoolean() ? "min" : "max", "(");
                addSum(deep - 1);
                add(",");
                addSum(deep - 2);
                add(")");
            } else {
                add("(");
                addSum(deep - 1);
                add(")");
            }
            return;
        }
        String[] words = {"across", "down", "edge", "" + random.nextInt(10), "" + random.nextInt(10000), "00"};
        add(words[random.nextInt(words.length)]);
    }

    private static void addTest(int deep) {
        addFact(deep);
        for (int i = random.nextInt(5) - 2; i > 0; i--) {
            add(random.nextBoolean() ? "or" : "and");
            addFact(deep - 2);
        }
    }

    private static void addFact(int deep) {
        if (deep > 0 && random.nextInt(deep + 2) > 1) {
            if (random.nextBoolean()) {
                add("not");
                addFact(deep - 1);
            } else {
                add("[");
                addTest(deep - 1);
                add("]");
            }
        } else if (random.nextBoolean()) {
            add("all");
        } else {
            addSum(deep - 1);
            add("<>=".substring(random.nextInt(3)).substring(0, 1));
            addSum(0);
        }
    }

    /** Pieces, with a blank where one is needed (or, once in a long while, not) and where one likes. */
    private static void add(String... pieces) {
        for (String piece : pieces) {
            int length = text.length();
            boolean needed = length > 0 && Character.isLetterOrDigit(text.charAt(length - 1)) && Character.isLetterOrDigit(piece.charAt(0));
            if (needed ? !rare(2000) : rare(6)) {
                text.append(rare(5) ? '\n' : ' ');
            }
            text.append(piece);
        }
    }

    private static void breakText() {
        for (int i = 1 + random.nextInt(2); i > 0; i--) {
            int at = random.nextInt(text.length() + 1);
            switch (random.nextInt(6)) {
                case 0: text.insert(at, PIECES[random.nextInt(PIECES.length)]); break;
                case 1: text.insert(at, " " + PIECES[random.nextInt(PIECES.length)] + " "); break;
                case 2: text.delete(at, Math.min(text.length(), at + 1 + random.nextInt(3))); break;
                case 3: text.setLength(at); break;
                case 4: text.insert(at, (char) random.nextInt(256)); break;
                default: text.append(PIECES[random.nextInt(PIECES.length)]); break;
            }
        }
    }
}
