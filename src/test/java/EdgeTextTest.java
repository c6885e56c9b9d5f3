import java.util.ArrayList;
import java.util.List;

/** Term I and promises 1 to 5, sentence by sentence: what is just within a bound of the text, and just beyond it. */
public final class EdgeTextTest {
    private static final Check CHECK = new Check();
    private static final String FIELD = "field 5 5;";
    private static final String KIND = FIELD + "kind k reach 2;";
    private static final List<String> OWN_WORDS = List.of("field", "kind", "reach", "high", "sunk", "child", "stone", "red", "blue",
        "at", "land", "worth", "when", "or", "and", "not", "all", "across", "down", "edge", "min", "max");

    public static void main(String[] args) {
        constants();
        newObject();
        feedBounds();
        feedOrder();
        endBounds();
        statements();
        sizes();
        firstAlone();
        reaches();
        marks();
        kindsBound();
        stonePlaces();
        takenPlaces();
        stonesBound();
        lands();
        rulesBound();
        names();
        ownWordsAsNames();
        unlikeNames();
        digits();
        edges();
        fromTheLeft();
        quotients();
        limits();
        blanks();
        wholeWords();
        unfitBytes();
        unfitWords();
        endsTooSoon();
        badNumbers();
        openAtOnce();
        firstAlongTheText();
        noStatement();
        tapeGoes();
        staysWithFault();
        beginsAnew();
        nothingOfAnother();
        faults();
        CHECK.close("EdgeTextTest");
    }

    private static String repeat(String what, int times) {
        return what.repeat(times);
    }

    /** Whether a TEST holds at the first place of a field of 5 and 5. */
    private static void holds(String test, boolean want) {
        BorderStones x = Check.with(FIELD + "worth 7 when " + test + ";");
        CHECK.due(test, x.place(0, 3), want ? 7 : 0);
    }

    // ---- promises 1 to 3: a new object and its tape

    private static void constants() {
        CHECK.says("`NONE = -1`: There is none; it is refused.");
        CHECK.due("NONE", BorderStones.NONE, -1);
        CHECK.says("`NOTHING = -1000000000`: Told where a number below 0 may be one.");
        CHECK.due("NOTHING", BorderStones.NOTHING, -1000000000);
    }

    private static void newObject() {
        CHECK.says("`BorderStones()`: No field, no KINDS.");
        BorderStones x = new BorderStones();
        CHECK.due("all that is told", Check.all(x), "0 0 0 0 0 0 0 0 |0 0 0 0 0 0 0 |0 0 0 0 0 0 0 ");
        CHECK.due("DAYS to undo", x.has(8), 0);
        CHECK.due("no first letter", x.letter(0, 0), -1);
        CHECK.due("no first KIND", x.kind(0, 0), -1);
        for (int what = 0; what < 8; what++) {
            CHECK.due("no first place, " + what, x.place(0, what), -1);
        }
        CHECK.due("the tape is empty", x.end(1), false);
    }

    private static void feedBounds() {
        CHECK.says("NONE, doing nothing, if there would be more than 1600.");
        String text = FIELD + repeat(" ", 1590);
        BorderStones x = new BorderStones();
        Check.feed(x, text);
        CHECK.due("feed at 1600", x.feed(0, 0, 0, 0, 0), -1);
        CHECK.due("it is 1600 still", x.end(1601), false);
        CHECK.due("the last byte stands", x.end(1600), true);
        CHECK.due("nothing of it is changed", x.border(), 1);
        for (int length = 1580; length <= 1600; length++) {
            Check.feed(x, text.substring(0, length));
            CHECK.due("feed at " + length, x.feed(0x20202020, 0x20202020, 0x20202020, 0x20202020, 0x20202020), length == 1580 ? 1600 : -1);
            CHECK.due("behind it, one byte more", x.end(length == 1580 ? 1601 : length + 1), false);
            CHECK.due("behind it", x.border(), 1);
        }
    }

    private static void feedOrder() {
        CHECK.says("Twenty bytes come behind those on the tape, of each number the highest first: how many there are");
        BorderStones x = new BorderStones();
        CHECK.due("none yet", x.end(0), true);
        CHECK.due("the first twenty", x.feed(0x6669656c, 0x64203320, 0x343b6b69, 0x6e642061, 0x62207265), 20);
        CHECK.due("twenty more", x.feed(0x61636820, 0x353b2020, 0x20202020, 0x20202020, 0x2020ffff), 40);
        CHECK.due("but the last two", x.end(38), true);
        CHECK.due("border", x.border(), 2);
        CHECK.due("HIGH", x.has(1), 4);
        CHECK.due("its second letter", x.letter(0, 1), 2);
        CHECK.due("its reach", x.kind(0, 0), 5);
        CHECK.due("feed", x.feed(0x66206669, 0x656c6420, 0x7f808182, 0xff000000, 0x80000000), 20);
        CHECK.due("end", x.end(0), true);
        CHECK.due("feed behind a cut", x.feed(0x66696578, 0, 0, 0, 0), 20);
        CHECK.due("a cut inside a number", x.end(3), true);
        CHECK.due("behind three bytes", x.feed(0x656c6420, 0x33203320, 0x3b202020, 0x20202020, 0x20202020), 23);
        CHECK.due("border of fie and eld", x.border(), -1);
        CHECK.due("no such word", x.fault(1), 0);
    }

    private static void endBounds() {
        CHECK.says("false, doing nothing, if it has not so many, or n is below 0.");
        BorderStones x = new BorderStones();
        for (int n : new int[] {1, 20, -1, Integer.MAX_VALUE, Integer.MIN_VALUE}) {
            CHECK.due("empty: end(" + n + ")", x.end(n), false);
        }
        CHECK.due("empty: end(0)", x.end(0), true);
        Check.feed(x, "field 3 3;          ");
        for (int n : new int[] {21, 1600, -1, Integer.MAX_VALUE, Integer.MIN_VALUE}) {
            CHECK.due("twenty: end(" + n + ")", x.end(n), false);
        }
        CHECK.due("nothing was done", x.end(20), true);
        CHECK.due("twenty and twenty", x.feed(0x20202020, 0x20202020, 0x20202020, 0x20202020, 0x20202020), 40);
        CHECK.due("the text stands", x.border(), 1);
        CHECK.says("The tape has its first n bytes alone: true");
        Check.feed(x, "field 3 3;land");
        CHECK.due("end(10)", x.end(10), true);
        CHECK.due("no more than ten", x.end(11), false);
        CHECK.due("ten again", x.end(10), true);
        CHECK.due("border", x.border(), 1);
    }

    // ---- term I: statements and how many of each

    private static void statements() {
        CHECK.says("{ STATEMENT ; } (80 at most)");
        String land = "land red at 0 0;";
        for (int many : new int[] {1, 2, 79, 80}) {
            CHECK.fine(many, FIELD + repeat(land, many - 1));
        }
        CHECK.says("an 81st STATEMENT (whatever stands there), at its first byte.");
        String eighty = FIELD + repeat(land, 79);
        CHECK.fault(5, eighty + "|" + land);
        CHECK.fault(5, eighty + " \n |" + land + land);
        CHECK.fine(80, eighty + " \n ");
        for (int b = 0; b < 256; b++) {
            if (b != 10 && b != 32) {
                CHECK.fault(5, eighty + "\n|" + (char) b);
            }
        }
        CHECK.fault(1, FIELD + repeat(land, 78) + "land red at 0 0|");
        CHECK.fault(1, FIELD + repeat(land, 78) + "|x;" + land);
    }

    private static void sizes() {
        for (int wide = 0; wide <= 9; wide++) {
            for (int high = 0; high <= 9; high++) {
                String text = "field " + wide + " " + high + ";";
                CHECK.says("field N N (WIDE, HIGH, 3 .. 7 both, 36 places together at most");
                if (wide < 3 || wide > 7) {
                    CHECK.fault(2, "field |" + wide + " " + high + ";");
                } else if (high < 3 || high > 7 || wide * high > 36) {
                    CHECK.fault(2, "field " + wide + " |" + high + ";");
                } else {
                    CHECK.fine(1, text);
                    BorderStones x = Check.with(text);
                    CHECK.due("WIDE", x.has(0), wide);
                    CHECK.due("HIGH", x.has(1), high);
                    CHECK.due("the last place", x.place(wide * high - 1, 3), 1);
                    CHECK.due("none behind it", x.place(wide * high, 3), -1);
                }
            }
        }
        CHECK.fault(2, "field |10 3;");
        CHECK.fault(2, "field 3 |10;");
        CHECK.fault(2, "field |9999 9999;");
        CHECK.fault(2, "field 3 |9999;");
        CHECK.fine(1, "field 0003 0007;");
    }

    private static void firstAlone() {
        CHECK.says("the first STATEMENT, and it alone");
        CHECK.fault(1, "|kind k reach 1;field 3 3;");
        CHECK.fault(1, "|land red at 0 0;field 3 3;");
        CHECK.fault(1, "|worth 1 when all;field 3 3;");
        CHECK.fault(1, "|stone k red at 0 0;field 3 3;");
        CHECK.fault(1, "|;field 3 3;");
        CHECK.fault(1, "field 3 3;|field 3 3;");
        CHECK.fault(1, KIND + " |field 5 5;");
        CHECK.fault(1, FIELD + "land red at 0 0;\n|field");
    }

    private static void reaches() {
        CHECK.says("kind NAME reach N { MARK } (1 .. 6;");
        for (int reach = 0; reach <= 12; reach++) {
            if (reach >= 1 && reach <= 6) {
                CHECK.due("reach", Check.with(FIELD + "kind k reach " + reach + ";").kind(0, 0), reach);
            } else {
                CHECK.fault(2, FIELD + "kind k reach |" + reach + ";");
            }
        }
        CHECK.fault(2, FIELD + "kind k reach |9999 high;");
        CHECK.fault(2, FIELD + "kind k reach |0000;");
        CHECK.fine(2, FIELD + "kind k reach 0006;");
    }

    private static void marks() {
        CHECK.says("MARKS high, sunk, child, each once at most;");
        String[] names = {"high", "sunk", "child"};
        CHECK.due("no MARK", Check.with(KIND).kind(0, 1), 0);
        for (int a = 0; a < 3; a++) {
            String one = FIELD + "kind k reach 1 " + names[a];
            CHECK.due("one MARK", Check.with(one + ";").kind(0, 1), 1 << a);
            CHECK.says("a MARK that was told already, at its first byte");
            CHECK.fault(1, one + " |" + names[a] + ";");
            for (int b = 0; b < 3; b++) {
                if (b == a) {
                    continue;
                }
                String two = one + " " + names[b];
                CHECK.due("two MARKS", Check.with(two + ";").kind(0, 1), 1 << a | 1 << b);
                CHECK.fault(1, two + " |" + names[a]);
                CHECK.fault(1, two + " |" + names[b] + ";");
                String three = two + " " + names[3 - a - b];
                CHECK.due("three MARKS", Check.with(three + ";").kind(0, 1), 7);
                CHECK.fault(1, three + " |" + names[a] + ";");
                CHECK.fault(1, three + " |" + names[3 - a - b] + ";");
                CHECK.fault(1, three + " |k;");
            }
        }
        CHECK.due("each KIND has MARKS of its own",
            Check.with(FIELD + "kind a reach 1 high;kind b reach 1 high;kind c reach 1;").kind(2, 1), 0);
    }

    private static String manyKinds(int many) {
        StringBuilder text = new StringBuilder(FIELD);
        for (int i = 0; i < many; i++) {
            text.append("kind k").append((char) ('a' + i)).append(" reach 1;");
        }
        return text.toString();
    }

    private static void kindsBound() {
        CHECK.says("5 KINDS)");
        for (int many = 0; many <= 5; many++) {
            CHECK.fine(many + 1, manyKinds(many));
            CHECK.due("KINDS", Check.with(manyKinds(many)).has(2), many);
        }
        CHECK.says("5 one too many of a kind");
        CHECK.fault(5, manyKinds(5) + "|kind kf reach 1;");
        CHECK.fault(5, manyKinds(5) + "\n|kind ka reach 1;");
        CHECK.fault(5, manyKinds(5) + " |kind at");
        CHECK.fault(5, manyKinds(5) + "|kind");
        CHECK.fault(5, manyKinds(5) + "|kind5");
        CHECK.fault(1, manyKinds(5) + "|kindx");
    }

    private static void stonePlaces() {
        CHECK.says("SIDE red or blue; across below WIDE, down below HIGH");
        for (int[] size : new int[][] {{7, 3}, {3, 7}, {6, 6}, {3, 3}}) {
            String text = "field " + size[0] + " " + size[1] + ";kind k reach 1;";
            for (int across = 0; across <= 8; across++) {
                for (int down = 0; down <= 8; down++) {
                    onePlace(text + "stone k blue at ", across, down, size);
                    onePlace(text + "land blue at ", across, down, size);
                }
            }
        }
        CHECK.fault(2, KIND + "stone k red at |9999 0;");
        CHECK.fault(2, KIND + "stone k red at 0 |9999;");
        for (String word : OWN_WORDS) {
            if (!word.equals("red") && !word.equals("blue")) {
                CHECK.fault(1, KIND + "stone k |" + word + " at 0 0;");
                CHECK.fault(1, FIELD + "land |" + word + " at 0 0;");
            }
        }
        CHECK.fault(1, KIND + "stone k |at 0 0;");
        CHECK.fault(1, KIND + "stone k |0 0;");
        CHECK.fault(1, KIND + "stone k red |blue at 0 0;");
    }

    private static void onePlace(String ahead, int across, int down, int[] size) {
        if (across >= size[0]) {
            CHECK.fault(2, ahead + "|" + across + " " + down + ";");
        } else if (down >= size[1]) {
            CHECK.fault(2, ahead + across + " |" + down + ";");
        } else {
            BorderStones x = Check.with(ahead + across + " " + down + ";");
            boolean stone = ahead.contains("stone");
            for (int place = 0; place < size[0] * size[1]; place++) {
                boolean there = place == down * size[0] + across;
                CHECK.due("stone of " + place, x.place(place, 0), there && stone ? 1 : -1);
                CHECK.due("land of " + place, x.place(place, 2), there && !stone ? 1 : -1);
            }
        }
    }

    private static void takenPlaces() {
        CHECK.says("(of a place that has a stone, the second one)");
        String one = KIND + "kind l reach 1;stone k red at 1 2;";
        CHECK.fault(2, one + "stone k red at 1 |2;");
        CHECK.fault(2, one + "stone k blue at 1 |2;");
        CHECK.fault(2, one + "stone l blue at 1 |2;");
        CHECK.fault(2, one + "land red at 1 2;stone k red at 0001 |0002");
        CHECK.fault(2, one + "stone k red at 2 1;stone k red at 1 |2;");
        CHECK.fine(5, one + "stone k blue at 2 1;");
        CHECK.fine(5, one + "land blue at 1 2;");
    }

    private static String manyStones(int many) {
        StringBuilder text = new StringBuilder("field 6 6;kind k reach 1;");
        for (int i = 0; i < many; i++) {
            text.append("stone k ").append(i % 2 == 0 ? "red" : "blue").append(" at ").append(i % 6).append(' ').append(i / 6).append(';');
        }
        return text.toString();
    }

    private static void stonesBound() {
        CHECK.says("20 STONES)");
        CHECK.fine(21, manyStones(19));
        CHECK.fine(22, manyStones(20));
        BorderStones x = Check.with(manyStones(20));
        CHECK.due("STONES", x.has(5), 20);
        CHECK.fault(5, manyStones(20) + "|stone k red at 5 5;");
        CHECK.fault(5, manyStones(20) + " |stone k red at 0 0;");
        CHECK.fault(5, manyStones(20) + "|stone x");
        CHECK.fault(5, manyStones(20) + "|stone");
        CHECK.fault(1, manyStones(20) + "|stones");
        CHECK.fine(23, manyStones(20) + "land red at 5 5;");
        for (int place = 20; place < 36; place++) {
            CHECK.due("a DAY's stone more", x.set(0, place) >= 0, true);
        }
        CHECK.due("all places", x.has(5), 36);
    }

    private static void lands() {
        CHECK.says("land SIDE at N N (the last one of a place counts; else nobody's)");
        BorderStones x = Check.with(FIELD + "land red at 1 0;land red at 2 0;land blue at 2 0;land blue at 3 0;land red at 3 0;"
            + "land red at 4 0;land blue at 4 0;land red at 4 0;land blue at 0 1;land blue at 0 1;");
        int[] want = {-1, 0, 1, 0, 0, 1, -1};
        for (int place = 0; place < want.length; place++) {
            CHECK.due("LAND of " + place, x.place(place, 2), want[place]);
        }
        CHECK.due("red's", x.side(0, 5), 3);
        CHECK.due("blue's", x.side(1, 5), 2);
        CHECK.due("told LAND is no change", x.place(4, 7), 0);
    }

    private static void rulesBound() {
        CHECK.says("worth SUM when TEST (6 RULES)");
        String rule = "worth 1 when all;";
        for (int many = 0; many <= 6; many++) {
            CHECK.fine(many + 1, FIELD + repeat(rule, many));
            CHECK.due("RULES", Check.with(FIELD + repeat(rule, many)).has(3), many);
        }
        CHECK.fault(5, FIELD + repeat(rule, 6) + "|" + rule);
        CHECK.fault(5, FIELD + repeat(rule, 6) + " |worth");
        CHECK.fault(5, FIELD + repeat(rule, 6) + "|worth(((((((((");
        CHECK.fault(1, FIELD + repeat(rule, 6) + "|worthy");
        String sixth = FIELD + repeat("worth 1 when not all;", 5) + "worth 42 when all;";
        CHECK.due("the sixth RULE counts", Check.with(sixth).place(3, 3), 42);
    }

    // ---- term I: names and numbers

    private static void names() {
        CHECK.says("NAMES: 1 to 6 letters");
        String letters = "azbycxdwev";
        for (int length = 1; length <= 6; length++) {
            String name = letters.substring(0, length);
            BorderStones x = Check.with(FIELD + "kind " + name + " reach 1;stone " + name + " red at 0 0;");
            for (int k = 0; k < 6; k++) {
                CHECK.due("letter " + k + " of " + name, x.letter(0, k), k < length ? name.charAt(k) - 'a' + 1 : 0);
            }
        }
        CHECK.says("a 7th letter at itself");
        for (int length = 7; length <= 10; length++) {
            String marked = letters.substring(0, 6) + "|" + letters.substring(6, length);
            CHECK.fault(1, FIELD + "kind " + marked + " reach 1;");
            CHECK.fault(1, FIELD + "kind azbycx reach 1;stone " + marked + " red at 0 0;");
        }
        CHECK.fault(1, FIELD + "kind |reach 1;");
        CHECK.fault(1, FIELD + "kind |; ");
        CHECK.fault(1, FIELD + "kind |7 reach 1;");
        CHECK.fault(1, FIELD + "kind |K reach 1;");
        CHECK.fault(1, FIELD + "kind |_ reach 1;");
    }

    private static void ownWordsAsNames() {
        CHECK.says("where a NAME is asked, an OWN WORD so");
        for (String word : OWN_WORDS) {
            CHECK.fault(1, FIELD + "kind |" + word + " reach 1;");
            CHECK.fault(1, FIELD + "kind |" + word);
            CHECK.fault(1, KIND + "stone |" + word + " red at 0 0;");
            CHECK.fine(2, FIELD + "kind " + word.substring(0, word.length() - 1) + "z reach 1;");
            if (word.length() < 6) {
                CHECK.fine(2, FIELD + "kind " + word + "x reach 1;");
                CHECK.fine(2, FIELD + "kind x" + word + " reach 1;");
            } else {
                CHECK.fault(1, FIELD + "kind " + word + "|x reach 1;");
            }
        }
    }

    private static void unlikeNames() {
        CHECK.says("3 a NAME to be given that is there already, one that is no KIND, at it");
        String two = FIELD + "kind ab reach 1;kind abc reach 2;";
        CHECK.fault(3, two + "kind |ab reach 1;");
        CHECK.fault(3, two + "kind |abc");
        CHECK.fine(4, two + "kind a reach 1;");
        CHECK.fine(4, two + "kind abcd reach 1;");
        CHECK.fine(4, two + "kind ba reach 1;");
        CHECK.fault(3, two + "stone |a red at 0 0;");
        CHECK.fault(3, two + "stone |abcd red at 0 0;");
        CHECK.fault(3, two + "stone |ba red");
        CHECK.due("the longer one", Check.with(two + "stone abc red at 0 0;").place(0, 1), 1);
        CHECK.due("the shorter one", Check.with(two + "stone ab red at 0 0;").place(0, 1), 0);
        CHECK.says("told ahead of where they are asked");
        CHECK.fault(3, FIELD + "stone |k red at 0 0;");
        CHECK.fault(3, FIELD + "stone |k red at 0 0;kind k reach 1;");
        CHECK.fault(3, manyKinds(5) + "stone |kf red at 0 0;");
        CHECK.fine(7, manyKinds(5) + "stone ke red at 0 0;");
        BorderStones x = Check.with(manyKinds(2));
        Check.feed(x, FIELD + "stone kb red at 0 0;");
        CHECK.due("a KIND of an earlier border is none", x.border(), -1);
        CHECK.due("FAULT 3", x.fault(0), 3);
    }

    private static void digits() {
        CHECK.says("where a number is asked, a 5th digit at itself");
        CHECK.fault(1, "field 1234|5 5;");
        CHECK.fault(1, "field 0000|5 5;");
        CHECK.fault(1, "field 5 0000|5;");
        CHECK.fault(1, "field 5 9999|99999;");
        CHECK.fault(1, FIELD + "kind k reach 0000|1;");
        CHECK.fault(1, KIND + "stone k red at 0000|0 0;");
        CHECK.fault(1, KIND + "stone k red at 0 0000|0;");
        CHECK.fault(1, KIND + "stone k red at 0 0;stone k red at 0 0000|0;");
        CHECK.fault(1, FIELD + "land red at 0000|0 0;");
        CHECK.fault(1, FIELD + "land red at 0 0000|0;");
        CHECK.fault(1, FIELD + "worth 0000|0 when all;");
        CHECK.fault(1, FIELD + "worth 1 + 1234|5");
        CHECK.fault(1, FIELD + "worth min(1, 1234|5) when all;");
        CHECK.fault(1, FIELD + "worth 1 when 1 < 1234|5;");
        CHECK.says("N (1 to 4 digits)");
        holds("0 = 0000", true);
        holds("7 = 07 and 7 = 007 and 7 = 0007", true);
        holds("9999 = 9998 + 1", true);
        holds("1234 = ((1 * 10 + 2) * 10 + 3) * 10 + 4", true);
        CHECK.says("(words and numbers whole, at their first byte");
        CHECK.fault(1, FIELD + "|12345");
        CHECK.fault(1, FIELD + "kind |12345");
        CHECK.fault(1, FIELD + "worth 1 |12345");
    }

    // ---- term I: sums

    private static void edges() {
        CHECK.says("edge (how many steps to the nearest side of the field, 0 at it)");
        int[][] sizes = {{3, 3}, {7, 5}, {5, 7}, {6, 6}, {4, 7}, {7, 3}};
        for (int[] size : sizes) {
            BorderStones x = Check.with("field " + size[0] + " " + size[1] + ";worth edge when all;");
            for (int place = 0; place < size[0] * size[1]; place++) {
                int across = place % size[0];
                int down = place / size[0];
                int steps = 0;
                while (across - steps > 0 && across + steps < size[0] - 1 && down - steps > 0 && down + steps < size[1] - 1) {
                    steps++;
                }
                CHECK.due("edge of " + place + " of " + size[0] + " " + size[1], x.place(place, 3), steps);
            }
        }
    }

    private static void fromTheLeft() {
        CHECK.says("All from the left on");
        holds("9 - 4 - 3 = 2", true);
        holds("9 - 4 + 3 = 8", true);
        holds("100 / 5 / 2 = 10", true);
        holds("100 / 5 * 2 = 40", true);
        holds("7 / 2 * 2 = 6", true);
        holds("2 * 7 / 2 = 7", true);
        holds("1 + 2 * 3 - 4 / 2 = 5", true);
        holds("9 - (4 - 3) = 8", true);
        holds("all or not all and not all", true);
        holds("not all and not all or all", true);
        holds("not all or all and not all", false);
        for (String facts : new String[] {"2 < 1", "1 < 1", "1 > 2", "1 > 1", "1 = 2", "2 = 1", "not all", "[1 = 2]"}) {
            holds(facts, false);
            holds("not " + facts, true);
            holds(facts + " and all", false);
            holds("all and " + facts, false);
            holds(facts + " and " + facts, false);
            holds(facts + " or " + facts, false);
            holds(facts + " or all", true);
            holds("all or " + facts, true);
            holds("not not " + facts, false);
        }
        holds("not 1 = 2 and 1 = 1", true);
        holds("not 1 = 1 or 1 = 1", true);
    }

    private static void quotients() {
        CHECK.says("/ gives the greatest whole number not above, by 0 it gives 0");
        int[] some = {-7, -6, -1, 0, 1, 6, 7, 8, 9999};
        int[] by = {-3, -2, -1, 0, 1, 2, 3, 9999};
        for (int a : some) {
            for (int b : by) {
                int want = b == 0 ? 0 : (int) Math.floor((double) a / b);
                holds("(0 + " + told(a) + ") / (" + told(b) + ") = " + told(want), true);
            }
        }
        holds("0 / 0 = 0", true);
        holds("9999 * 9999 / 0 = 0", true);
        holds("5 / (across - 0) = 0", true);
    }

    /** A number that may be below 0, as a SUM. */
    private static String told(int number) {
        return number < 0 ? "(0 - " + -number + ")" : "" + number;
    }

    private static void limits() {
        CHECK.says("each sum, difference, product above 10 to the 6 is that, below -10 to the 6 likewise");
        String million = "1000 * 1000";
        holds("999 * 1001 = " + million, false);
        holds("999 * 1001 + 1 = " + million, true);
        holds("999 * 1001 + 2 = " + million, true);
        holds(million + " + 0 = " + million, true);
        holds(million + " + 1 = " + million, true);
        holds(million + " + 1 - 1 < " + million, true);
        holds("1001 * 1000 = " + million, true);
        holds("9999 * 9999 = " + million, true);
        holds("9999 * 9999 * (9999 * 9999) = " + million, true);
        holds(million + " - (0 - 1) = " + million, true);
        holds("0 - 999 * 1001 = 0 - " + million, false);
        holds("0 - 999 * 1001 - 1 = 0 - " + million, true);
        holds("0 - " + million + " - 1 = 0 - " + million, true);
        holds("0 - " + million + " - 1 + 1 > 0 - " + million, true);
        holds("0 - " + million + " + (0 - 1) = 0 - " + million, true);
        holds("(0 - 9999) * 9999 = 0 - " + million, true);
        holds("(0 - 9999) * (0 - 9999) = " + million, true);
        holds("9999 * 9999 / 1000 = 1000", true);
        holds("(0 - 9999) * 9999 / 1000 = 0 - 1000", true);
        CHECK.says("0 .. 99 (below is 0, above 99; 1 without any RULE told, 0 if none holds)");
        int[][] worths = {{98, 98}, {99, 99}, {100, 99}, {101, 99}, {9999, 99}, {1, 1}, {0, 0}, {-1, 0}, {-9999, 0}};
        for (int[] pair : worths) {
            CHECK.due("WORTH " + pair[0], Check.with(FIELD + "worth " + told(pair[0]) + " when all;").place(24, 3), pair[1]);
        }
        CHECK.due("without any RULE", Check.with(FIELD).place(24, 3), 1);
        CHECK.due("none holds", Check.with(FIELD + "worth 5 when not all;").place(24, 3), 0);
        CHECK.due("the first that holds", Check.with(FIELD + "worth 5 when across < 4;worth 6 when all;worth 7 when all;").place(24, 3), 6);
    }

    // ---- term I: blanks and faults

    private static void blanks() {
        CHECK.says("Blanks (10, 32) are where one likes (words and numbers side by side need one)");
        CHECK.fine(6, " \n field\n5 5 ; kind  k\n\nreach 1 high ;\nstone k red at 0 \n 0 ; land blue at 1 1\n;worth ( 1 + 2 ) * min ( 3 , 4 ) - 1 / 2 "
            + "when [ not all or 1 < 2 ] and 3 > 2 ; worth 1 when 1 = 1 ; \n");
        CHECK.fine(4, "field 5 5;kind k reach 1;worth(1+2)*min(3,4)-1/2 when[not all or 1<2]and 3>2;land red at 0 0;");
        for (int b = 0; b < 256; b++) {
            char sign = (char) b;
            boolean letter = b >= 'a' && b <= 'z';
            boolean digit = b >= '0' && b <= '9';
            if (b == 10 || b == 32) {
                CHECK.fine(1, sign + "field" + sign + "5" + sign + "5" + sign + ";" + sign);
            } else if (!letter && !digit) {
                CHECK.fault(1, "|" + sign + "field 5 5;");
                CHECK.fault(1, "field|" + sign + "5 5;");
                CHECK.fault(1, "field 5|" + sign + "5;");
                if (sign != ';') {
                    CHECK.fault(1, "field 5 5|" + sign + ";");
                }
                CHECK.fault(1, "field 5 5;|" + sign);
            }
        }
        CHECK.fault(1, "field|5 5;");
        CHECK.fault(1, "field 5|x 5;");
        CHECK.fault(1, FIELD + "kind k reach|1;");
        CHECK.fault(1, FIELD + "kind k reach 1|high;");
        CHECK.fault(1, KIND + "stone k red at|0 0;");
        CHECK.fault(1, KIND + "stone k red at 0|at;");
        CHECK.fault(1, FIELD + "worth|1 when all;");
        CHECK.fault(1, FIELD + "worth 1|when all;");
        CHECK.fault(1, FIELD + "worth 1 when|1 < 2;");
        CHECK.fault(1, FIELD + "worth 1 when 1 < 2|and all;");
        CHECK.fault(1, FIELD + "worth 1 when all and|1 < 2;");
    }

    private static void wholeWords() {
        CHECK.says("(words and numbers whole, at their first byte");
        CHECK.fault(1, "|fiel 5 5;");
        CHECK.fault(1, "|fieldx 5 5;");
        CHECK.fault(1, "|fiel");
        CHECK.fault(1, "|f");
        CHECK.fault(1, "|5 5;");
        CHECK.fault(1, FIELD + "|kin k reach 1;");
        CHECK.fault(1, FIELD + "|lan");
        CHECK.fault(1, FIELD + "kind k |reac 1;");
        CHECK.fault(1, FIELD + "kind k |reached 1;");
        CHECK.fault(1, FIELD + "kind k reach 1 |hig;");
        CHECK.fault(1, FIELD + "kind k reach 1 |highs;");
        CHECK.fault(1, KIND + "stone k |re at 0 0;");
        CHECK.fault(1, KIND + "stone k red |att 0 0;");
        CHECK.fault(1, FIELD + "worth |acros when all;");
        CHECK.fault(1, FIELD + "worth 1 |whe all;");
        CHECK.fault(1, FIELD + "worth 1 when |al;");
        CHECK.fault(1, FIELD + "worth 1 when all |o all;");
        CHECK.fault(1, FIELD + "worth 1 when all |ands all;");
    }

    /** Behind each of these, every byte that cannot come there is the fault; words and numbers are told apart from signs. */
    private static void unfitBytes() {
        CHECK.says("1 the first byte with which no such text goes on");
        String[][] spots = {{"", ""}, {"field 5 5", ";"}, {FIELD, ""}, {FIELD + "kind k reach 1 ", ";"}, {FIELD + "worth ", "("},
            {FIELD + "worth min ", "("}, {FIELD + "worth min(1 ", ",+-*/"}, {FIELD + "worth min(1,2 ", ")+-*/"}, {FIELD + "worth 1 ", "+-*/"},
            {FIELD + "worth (1 ", ")+-*/"}, {FIELD + "worth 1 when ", "(["}, {FIELD + "worth 1 when not ", "(["},
            {FIELD + "worth 1 when 1 ", "<>=+-*/"}, {FIELD + "worth 1 when 1 < ", "("}, {FIELD + "worth 1 when 1 < 2 ", ";+-*/"},
            {FIELD + "worth 1 when all ", ";"}, {FIELD + "worth 1 when [all ", "]"}, {FIELD + "worth 1 when [1 < 2 ", "]+-*/"},
            {FIELD + "worth 1 when [all] ", ";"}, {FIELD + "worth 1 when all and ", "(["}, {FIELD + "worth 1 when all or ", "(["}};
        for (String[] spot : spots) {
            for (int b = 0; b < 256; b++) {
                boolean blank = b == 10 || b == 32;
                boolean joined = b >= 'a' && b <= 'z' || b >= '0' && b <= '9';
                if (!blank && !joined && spot[1].indexOf(b) < 0) {
                    CHECK.fault(1, spot[0] + "|" + (char) b);
                }
            }
            for (char sign : spot[1].toCharArray()) {
                BorderStones x = new BorderStones();
                Check.feed(x, spot[0] + sign);
                boolean sound = x.border() > 0 || x.fault(0) == 1 && x.fault(1) == spot[0].length() + 1;
                CHECK.due(spot[0] + sign + " goes on", sound, true);
            }
        }
    }

    /** Behind each of these, every word and number that cannot come there is the fault. */
    private static void unfitWords() {
        CHECK.says("1 the first byte with which no such text goes on");
        String part = " across down edge min max 3 ";
        String fact = " not all" + part;
        String rule = FIELD + "worth ";
        String test = rule + "1 when ";
        String[][] spots = {{"", " field "}, {"field ", " 3 "}, {"field 5 ", " 3 "}, {"field 5 5 ", ""}, {FIELD, " kind stone land worth "},
            {FIELD + "kind ", " k "}, {FIELD + "kind k ", " reach "}, {FIELD + "kind k reach ", " 3 "},
            {FIELD + "kind k reach 1 ", " high sunk child "}, {KIND, " kind stone land worth "}, {KIND + "stone ", " k "},
            {KIND + "stone k ", " red blue "}, {KIND + "stone k blue ", " at "}, {KIND + "stone k blue at ", " 3 "},
            {KIND + "stone k blue at 0 ", " 3 "}, {KIND + "stone k blue at 0 0 ", ""}, {FIELD + "land ", " red blue "},
            {FIELD + "land red ", " at "}, {FIELD + "land red at ", " 3 "}, {FIELD + "land red at 0 ", " 3 "}, {FIELD + "land red at 0 0 ", ""},
            {rule, part}, {rule + "1 ", " when "}, {rule + "down ", " when "}, {rule + "1 + ", part}, {rule + "1 - ", part}, {rule + "1 * ", part},
            {rule + "1 / ", part}, {rule + "1 + 2 ", " when "}, {rule + "1 * 2 ", " when "}, {rule + "(", part}, {rule + "(1 ", ""},
            {rule + "(1)", " when "}, {rule + "min ", ""}, {rule + "max ", ""}, {rule + "min(", part}, {rule + "min(1 ", ""},
            {rule + "min(1,", part}, {rule + "max(1,2 ", ""}, {rule + "max(1,2)", " when "}, {test, fact}, {test + "not ", fact},
            {test + "[", fact}, {test + "all ", " or and "}, {test + "all or ", fact}, {test + "all and ", fact}, {test + "1 ", ""},
            {test + "1 < ", part}, {test + "1 > ", part}, {test + "1 = ", part}, {test + "1 < 2 ", " or and "}, {test + "[all ", " or and "},
            {test + "[1 = 2 ", " or and "}, {test + "[all]", " or and "}, {test + "not all ", " or and "}};
        List<String> tokens = new ArrayList<>(OWN_WORDS);
        tokens.add("k");
        tokens.add("3");
        for (String[] spot : spots) {
            for (String token : tokens) {
                if (!spot[1].contains(" " + token + " ")) {
                    CHECK.fault(1, spot[0] + "|" + token);
                    CHECK.fault(1, spot[0] + "|" + token + " ;");
                    CHECK.fault(1, spot[0] + "|" + token + " 1 when all;");
                    continue;
                }
                BorderStones x = new BorderStones();
                Check.feed(x, spot[0] + token);
                CHECK.due(spot[0] + token + " ends too soon", x.border(), -1);
                CHECK.due(spot[0] + token + " goes on", x.fault(0) * 10000 + x.fault(1), 10000 + (spot[0] + token).length());
            }
        }
    }

    private static void endsTooSoon() {
        CHECK.says("at the text's length, if it ends too soon)");
        String[] tokens = ("field 5 5 ; kind k reach 2 high sunk ; stone k red at 1 1 ; land blue at 2 2 ; "
            + "worth ( 1 + min ( across , 2 ) ) * 3 - edge / 4 when not [ all or 1 < 2 ] and 3 > down or all ;").split(" ");
        StringBuilder text = new StringBuilder();
        for (String token : tokens) {
            text.append(token);
            if (!token.equals(";")) {
                CHECK.fault(1, text + "|");
                CHECK.fault(1, text + " |");
                CHECK.fault(1, text + " \n\n |");
            }
            text.append(' ');
        }
        CHECK.fine(5, text.toString());
        String long1600 = FIELD + repeat(" ", 1589) + "k";
        CHECK.fault(1, FIELD + repeat(" ", 1589) + "|k");
        CHECK.due("a text as long as can be", long1600.length(), 1600);
        CHECK.fault(1, "field 5 5" + repeat(" ", 1591) + "|");
    }

    private static void badNumbers() {
        CHECK.says("2 a number that can't be, at it");
        CHECK.fault(2, "  field  |2");
        CHECK.fault(2, "field |2x");
        CHECK.fault(2, "field |8;");
        CHECK.fault(2, "field 5 |1000;");
        CHECK.fault(2, FIELD + "kind k reach |7 x");
        CHECK.fault(2, FIELD + "land red at |5;");
        CHECK.fault(2, FIELD + "land red at 4 |5");
    }

    private static void openAtOnce() {
        CHECK.says("4 the 7th ( [ not that is open at once (not until its FACT ends), at it");
        // brackets and nots stand outside, by turns, and round ones inside: no TEST is inside round ones
        for (int outside = 0; outside <= 6; outside++) {
            for (int first = 0; first < 2; first++) {
                StringBuilder six = new StringBuilder(FIELD + "worth 1 when ");
                int brackets = 0;
                for (int i = 0; i < outside; i++) {
                    boolean bracket = (i + first) % 2 == 0;
                    six.append(bracket ? "[" : " not ");
                    brackets += bracket ? 1 : 0;
                }
                six.append(repeat("(", 6 - outside));
                CHECK.fine(2, six + "1" + repeat(")", 6 - outside) + "<2" + repeat("]", brackets) + ";");
                CHECK.fault(4, six + "|(1)" + repeat(")", 6 - outside) + "<2" + repeat("]", brackets) + ";");
            }
        }
        CHECK.fine(2, FIELD + "worth " + repeat("(", 6) + "1" + repeat(")", 6) + " when all;");
        CHECK.fault(4, FIELD + "worth " + repeat("(", 6) + "|(1");
        CHECK.fault(4, FIELD + "worth " + repeat("(", 6) + "|((((((");
        CHECK.fine(2, FIELD + "worth 1 when " + repeat("[", 6) + "all" + repeat("]", 6) + ";");
        CHECK.fault(4, FIELD + "worth 1 when " + repeat("[", 6) + "|[all");
        CHECK.fault(4, FIELD + "worth 1 when " + repeat("[", 6) + "|not all");
        CHECK.fault(4, FIELD + "worth 1 when " + repeat("not ", 6) + "|[all]");
        CHECK.fault(4, FIELD + "worth 1 when " + repeat("not ", 6) + "|not");
        CHECK.fault(4, FIELD + "worth 1 when " + repeat("not ", 6) + "1 < |(2)");
        CHECK.fault(4, FIELD + "worth " + repeat("max(1,", 6) + "min|(2");
        CHECK.fault(4, FIELD + "worth " + repeat("max(1,", 6) + "min |(2");
        CHECK.fault(1, FIELD + "worth " + repeat("(", 6) + "|[");
        CHECK.fault(1, FIELD + "worth " + repeat("(", 6) + "|not");
        // what is closed is open no more; a not ends with its FACT, not with the TEST
        CHECK.fine(2, FIELD + "worth ((((((1))))))+((((((1)))))) when ((((((1))))))<((((((2)))))) and " + repeat("not ", 6) + "all or "
            + repeat("not ", 6) + "1<2 and [[[[[[all]]]]]] or [not [not [not all and not all]]];");
        CHECK.fine(3, FIELD + "worth ((((((1)))))) when all;worth ((((((1)))))) when " + repeat("not ", 6) + "all;");
        CHECK.fine(2, FIELD + "worth 1 when not not [not not all and not not (1) < 2];");
        CHECK.fault(4, FIELD + "worth 1 when not not [not not all and not not (|(1)) < 2];");
    }

    private static void firstAlongTheText() {
        CHECK.says("FAULTS, the first along the text");
        CHECK.fault(2, "field |2 9;x");
        CHECK.fault(2, "field |9 12345;");
        CHECK.fault(1, "field |x 2;");
        CHECK.fault(3, KIND + "kind |k reach 9;stone x");
        CHECK.fault(3, KIND + "stone |x green at 9 9;");
        CHECK.fault(2, KIND + "stone k red at |9 9;");
        CHECK.fault(4, FIELD + "worth " + repeat("(", 6) + "|(12345 when;");
        CHECK.fault(1, FIELD + "worth 1234|5+" + repeat("(", 7));
        CHECK.fault(5, manyKinds(5) + "|kind ka reach 9;field");
        CHECK.fault(1, manyKinds(5) + "|field;kind ka reach 9;");
    }

    // ---- promises 4 and 5: border and fault

    private static void noStatement() {
        CHECK.says("one without a STATEMENT has FAULT 1 at its length");
        CHECK.fault(1, "|");
        CHECK.fault(1, " |");
        CHECK.fault(1, "\n|");
        CHECK.fault(1, repeat(" \n", 10) + "|");
        CHECK.fault(1, repeat(" ", 1600) + "|");
        BorderStones x = new BorderStones();
        CHECK.due("border without a tape", x.border(), -1);
        CHECK.due("its FAULT", x.fault(0), 1);
        CHECK.due("at 0", x.fault(1), 0);
    }

    private static void tapeGoes() {
        CHECK.says("The tape (it goes) is THE BORDER: how many STATEMENTS; NONE with a FAULT");
        BorderStones x = new BorderStones();
        for (String text : new String[] {FIELD, "oops", KIND, "", repeat(" ", 1600)}) {
            Check.feed(x, text);
            x.border();
            CHECK.due("the tape behind '" + text + "'", x.end(1), false);
            CHECK.due("it is empty", x.end(0), true);
        }
        Check.feed(x, KIND);
        CHECK.due("two", x.border(), 2);
        CHECK.due("the same again is no text", x.border(), -1);
        CHECK.due("but the border stays", x.has(2), 1);
    }

    private static void staysWithFault() {
        CHECK.says("NONE with a FAULT (all stays;");
        BorderStones x = Check.with("field 4 3;kind ab reach 1 high;stone ab red at 1 0;stone ab red at 0 1;stone ab red at 2 1;"
            + "land blue at 0 0;worth across + 1 when all;");
        x.set(0, 9);
        x.set(0, 11);
        x.set(0, 3);
        x.image();
        String before = Check.all(x);
        int days = x.has(8);
        String[] broken = {"", "x", "field 9", "field 3 3;kind q reach 6 sunk;stone q blue at 1 1;land red at 0 0;worth 9 when all;oops",
            manyStones(20) + "stone", "field 3 3;kind k reach 1;kind k", "field 6 6;worth(((((((", FIELD + repeat("land red at 0 0;", 80)};
        for (String text : broken) {
            Check.feed(x, text);
            CHECK.due("border of " + text, x.border(), -1);
            CHECK.due("all stays", Check.all(x), before);
            CHECK.due("DAYS to undo stay", x.has(8), days);
            CHECK.due("the image stays", x.octet(0), 3);
        }
        for (int i = 0; i < 3; i++) {
            CHECK.due("undo", x.undo(), true);
        }
        CHECK.due("no more", x.undo(), false);
        CHECK.due("the first DAY", x.has(4), 0);
    }

    private static void beginsAnew() {
        CHECK.says("Without one it is DAY 0, nothing is OWED, nothing can be undone, no place changed hands; the seed stays.");
        String text = "field 3 3;kind s reach 1;stone s red at 1 0;stone s red at 0 1;stone s red at 2 1;";
        BorderStones x = Check.with(text);
        String anew = Check.all(x);
        x.set(0, 7);
        x.set(0, -1);
        CHECK.due("changed hands", x.place(4, 7), 1);
        x.undo();
        CHECK.due("OWED", x.has(6), 1);
        Check.feed(x, text);
        CHECK.due("border", x.border(), 5);
        CHECK.due("all is new", Check.all(x), anew);
        CHECK.due("nothing to undo", x.has(8), 0);
        CHECK.due("no undo", x.undo(), false);
        x.set(0, 7);
        x.set(0, -1);
        Check.feed(x, text);
        x.border();
        CHECK.due("no place changed hands", x.place(4, 7), 0);
        String wide = "field 6 6;kind s reach 1;";
        BorderStones y = Check.with(wide);
        y.year(10);
        Check.feed(y, wide);
        y.border();
        y.year(10);
        long seed = 1;
        for (int i = 0; i < 10; i++) {
            seed = (1103515245L * seed + 12345L) % (1L << 31);
        }
        BorderStones z = Check.with(wide);
        z.seed((int) seed);
        z.year(10);
        CHECK.due("the seed stays", Check.all(y), Check.all(z));
    }

    /** One border behind another, sound or not, on one object: nothing of the first is left in the second. */
    private static void nothingOfAnother() {
        CHECK.says("The tape (it goes) is THE BORDER");
        String[] texts = {"field 3 3;",
            "field 6 6;kind abcdef reach 6 high;kind b reach 5 sunk;kind c reach 4 child;kind d reach 1;kind e reach 2 high sunk child;"
                + "stone abcdef red at 0 0;stone b blue at 5 5;stone c red at 3 3;stone d blue at 2 2;stone e red at 1 4;land red at 0 0;"
                + "land blue at 3 2;worth edge when across > down;worth 9 when all;",
            "field 5 4;kind x reach 3;kind yz reach 1;stone x red at 0 0;stone x red at 3 0;stone x red at 0 3;stone yz blue at 1 0;",
            "field 4 5;kind x reach 3 child;kind yz reach 4 high;stone yz blue at 0 0;stone yz blue at 3 0;stone yz blue at 0 3;"
                + "stone x red at 1 0;land red at 1 1;worth across * down when not all;",
            "field 7 3;kind q reach 6 sunk;stone q red at 0 0;stone q red at 6 0;stone q red at 0 2;stone q blue at 3 1;worth 5 when down = 1;",
            "field 7 5;kind k reach 2;worth ((((((1)))))) when not not not [[(1)<2]];",
            "field 7 5;kind k reach 2 high;worth (((((((1))))))) when all;",
            "field 6 6;kind k reach 2 high sunk child;kind l reach 1;stone k red at 0 0;land blue at 1 1;worth 3 when [[[[[[not all]]]]]];",
            "field 3 7;kind abcdefg", "field 6 6;land blue at 2 2;worth 2 when all;worth 3 when min(1,2"};
        for (String text : texts) {
            BorderStones fresh = new BorderStones();
            Check.feed(fresh, text);
            int statements = fresh.border();
            if (statements == -1) {
                continue;
            }
            String told = Check.all(fresh) + Check.asked(fresh);
            for (String ahead : texts) {
                for (int days : new int[] {0, 9}) {
                    BorderStones x = Check.with(days == 0 ? texts[1] : texts[2]);
                    Check.feed(x, ahead);
                    x.border();
                    for (int i = 0; i < days; i++) {
                        x.set(0, i * 5 % 14);
                    }
                    Check.asked(x);
                    Check.feed(x, text);
                    CHECK.due("border of " + text + " behind " + ahead, x.border(), statements);
                    CHECK.due("all of " + text + " behind " + ahead, Check.all(x) + Check.asked(x), told);
                }
            }
        }
    }

    private static void faults() {
        CHECK.says("its FAULT (what 0; 0 without, and ahead of any), its place (1; NONE without). NONE for another what.");
        BorderStones x = new BorderStones();
        fault(x, 0, -1);
        Check.feed(x, FIELD);
        x.border();
        fault(x, 0, -1);
        Check.feed(x, "field 2");
        x.border();
        fault(x, 2, 6);
        x.end(0);
        x.set(0, -1);
        fault(x, 2, 6);
        Check.feed(x, FIELD);
        fault(x, 2, 6);
        x.border();
        fault(x, 0, -1);
        x.border();
        fault(x, 1, 0);
    }

    private static void fault(BorderStones x, int fault, int at) {
        CHECK.due("fault(0)", x.fault(0), fault);
        CHECK.due("fault(1)", x.fault(1), at);
        for (int what : new int[] {-1, 2, 3, Integer.MIN_VALUE, Integer.MAX_VALUE}) {
            CHECK.due("fault(" + what + ")", x.fault(what), -1);
        }
    }
}
