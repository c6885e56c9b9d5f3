import java.util.ArrayList;
import java.util.List;

/** Term II and promises 6 to 12, sentence by sentence: lines, what they shut in, days, what is owed, undoing. */
public final class EdgeDayTest {
    private static final Check CHECK = new Check();
    private static final int[] WILD = {-2, Integer.MIN_VALUE, Integer.MAX_VALUE, 36, 64, 1 << 20};
    /** Red has three of the four stones around the middle, place 4. */
    private static final String RING = "field 3 3;kind s reach 1;stone s red at 1 0;stone s red at 0 1;stone s red at 2 1;";

    public static void main(String[] args) {
        numbering();
        reachBounds();
        rowsColumnsSlants();
        marksOfLines();
        edgePlaces();
        shutIn();
        firstDay();
        takenOrPasses();
        answered();
        owedOnce();
        notJustSo();
        notItsLand();
        lastDay();
        hasBounds();
        letterBounds();
        kindBounds();
        placeBounds();
        sideBounds();
        setRefused();
        passing();
        undoBounds();
        allAsItWas();
        marksUndone();
        CHECK.close("EdgeDayTest");
    }

    // ---- places and lines

    private static void numbering() {
        CHECK.says("Places are numbered across, then down: down times WIDE, and across.");
        for (int[] size : new int[][] {{7, 3}, {3, 7}, {6, 6}, {4, 5}}) {
            BorderStones x = Check.with("field " + size[0] + " " + size[1] + ";worth down * 10 + across when all;");
            for (int down = 0; down < size[1]; down++) {
                for (int across = 0; across < size[0]; across++) {
                    CHECK.due("the place " + across + " " + down, x.place(down * size[0] + across, 3), down * 10 + across);
                }
            }
        }
        CHECK.says("Red is side 0, blue 1.");
        BorderStones x = Check.with("field 3 3;kind s reach 1;stone s red at 0 0;stone s blue at 1 0;land red at 0 1;land blue at 1 1;");
        CHECK.due("red's stone", x.place(0, 0), 0);
        CHECK.due("blue's stone", x.place(1, 0), 1);
        CHECK.due("red's land", x.place(3, 2), 0);
        CHECK.due("blue's land", x.place(4, 2), 1);
    }

    /** A line of two stones of these reaches, so many steps apart one way. */
    private static void apart(String field, int fromAcross, int toAcross, int fromDown, int toDown) {
        int steps = Math.max(Math.abs(toAcross - fromAcross), Math.abs(toDown - fromDown));
        for (int a = 1; a <= 6; a++) {
            for (int b = 1; b <= 6; b++) {
                BorderStones x = Check.with(field + "kind a reach " + a + ";kind b reach " + b + ";stone a blue at " + fromAcross + " " + fromDown
                    + ";stone b blue at " + toAcross + " " + toDown + ";");
                int want = steps <= a && steps <= b ? 1 : 0;
                String what = steps + " steps, reach " + a + " and " + b;
                CHECK.due("LINES, " + what, x.side(1, 1), want);
                CHECK.due("places on the EDGE, " + what, x.side(1, 2), want == 1 ? steps + 1 : 2);
                int wide = x.has(0);
                CHECK.due("line(), " + what, x.line(fromDown * wide + fromAcross, toDown * wide + toAcross), want);
                CHECK.due("the other side's", x.side(0, 1) + x.side(0, 2), 0);
            }
        }
    }

    private static void reachBounds() {
        CHECK.says("not farther apart (in steps) than either's reach");
        for (int steps = 1; steps <= 6; steps++) {
            apart("field 7 3;", 0, steps, 1, 1);
            apart("field 3 7;", 1, 1, 0, steps);
        }
        for (int steps = 1; steps <= 5; steps++) {
            apart("field 6 6;", 0, steps, 0, steps);
            apart("field 6 6;", 5, 5 - steps, 0, steps);
        }
    }

    private static void rowsColumnsSlants() {
        CHECK.says("in one row, column or slant");
        for (int first = 0; first < 20; first++) {
            for (int second = 0; second < 20; second++) {
                if (first == second) {
                    continue;
                }
                int across = Math.abs(first % 5 - second % 5);
                int down = Math.abs(first / 5 - second / 5);
                BorderStones x = Check.with("field 5 4;kind s reach 6;stone s red at " + first % 5 + " " + first / 5
                    + ";stone s red at " + second % 5 + " " + second / 5 + ";");
                // the end of a row and the start of the next one are no neighbours
                int want = across == 0 || down == 0 || across == down ? 1 : 0;
                CHECK.due("line(" + first + ", " + second + ")", x.line(first, second), want);
                CHECK.due("LINES of " + first + ", " + second, x.side(0, 1), want);
            }
        }
    }

    private static String kind(String name, int reach, int marks) {
        return "kind " + name + " reach " + reach + ((marks & 1) != 0 ? " high" : "") + ((marks & 2) != 0 ? " sunk" : "")
            + ((marks & 4) != 0 ? " child" : "") + ";";
    }

    private static void marksOfLines() {
        CHECK.says("two STONES of one side, none of them of a child KIND");
        CHECK.says("with no STONE between them but sunk ones (a high one at one end: whatever stands between)");
        for (int a = 0; a < 8; a++) {
            for (int b = 0; b < 8; b++) {
                for (int m = 0; m < 8; m++) {
                    String told = "field 7 3;" + kind("a", 4, a) + kind("b", 4, b) + kind("m", 1, m);
                    for (String side : new String[] {"red", "blue"}) {
                        for (int at = 2; at <= 4; at++) {
                            BorderStones x = Check.with(told + "stone a red at 1 1;stone b red at 5 1;stone m " + side + " at " + at + " 1;");
                            boolean child = ((a | b) & 4) != 0;
                            boolean free = (m & 2) != 0 || ((a | b) & 1) != 0;
                            CHECK.due("marks " + a + ", " + b + ", " + m + " between at " + at, x.line(8, 12), !child && free ? 1 : 0);
                        }
                    }
                }
            }
        }
        String two = "field 7 3;kind a reach 4;kind u reach 1 sunk;kind n reach 1;stone a red at 1 1;stone a red at 5 1;";
        CHECK.due("none between", Check.with(two).line(8, 12), 1);
        CHECK.due("sunk ones alone", Check.with(two + "stone u red at 2 1;stone u blue at 3 1;stone u blue at 4 1;").line(8, 12), 1);
        CHECK.due("one that is not", Check.with(two + "stone u red at 2 1;stone n blue at 3 1;stone u blue at 4 1;").line(8, 12), 0);
        CHECK.due("none between, but behind", Check.with(two + "stone n blue at 0 1;stone n blue at 6 1;").line(8, 12), 1);
        CHECK.due("beside it", Check.with(two + "stone n blue at 3 0;stone n blue at 3 2;").line(8, 12), 1);
        // a high one between is no high one at an end
        CHECK.due("a high one between", Check.with("field 7 3;kind a reach 4;kind h reach 1 high;stone a red at 1 1;stone a red at 5 1;"
            + "stone h red at 3 1;").line(8, 12), 0);
        CHECK.due("of two sides", Check.with("field 7 3;kind a reach 4;stone a red at 1 1;stone a blue at 5 1;").side(0, 1), 0);
    }

    private static void edgePlaces() {
        CHECK.says("the places of its STONES, and all between the ends of its LINES");
        BorderStones x = Check.with("field 5 5;kind s reach 4;kind c reach 6 child;stone s red at 0 0;stone s red at 4 4;stone c red at 4 0;"
            + "stone s blue at 0 4;stone s blue at 0 2;stone c blue at 2 4;");
        int[] want = {1, 0, 0, 0, 1, 0, 1, 0, 0, 0, 2, 0, 1, 0, 0, 2, 0, 0, 1, 0, 2, 0, 2, 0, 1};
        for (int place = 0; place < 25; place++) {
            CHECK.due("EDGE at " + place, x.place(place, 4), want[place]);
        }
        CHECK.due("places of red's", x.side(0, 2), 6);
        CHECK.due("places of blue's", x.side(1, 2), 4);
        // a LINE that lies upon another LINE adds no place
        x = Check.with("field 7 3;kind h reach 6 high;stone h red at 0 1;stone h red at 3 1;stone h red at 6 1;");
        CHECK.due("three LINES", x.side(0, 1), 3);
        CHECK.due("seven places", x.side(0, 2), 7);
    }

    private static void shutIn() {
        CHECK.says("places that are not on its EDGE and hang together (across, down), none of which is at the field's side");
        // slantwise is not together: the four beside the middle shut it in
        BorderStones x = Check.with("field 5 5;kind s reach 1;stone s red at 2 1;stone s red at 1 2;stone s red at 3 2;stone s red at 2 3;");
        CHECK.due("one place", x.side(0, 3), 1);
        CHECK.due("the middle", x.place(12, 5), 1);
        // the same at the field's side shuts nothing in
        x = Check.with("field 5 5;kind s reach 1;stone s red at 2 1;stone s red at 1 0;stone s red at 3 0;");
        CHECK.due("at the side above", x.side(0, 3), 0);
        x = Check.with("field 5 5;kind s reach 1;stone s red at 0 1;stone s red at 1 2;stone s red at 0 3;");
        CHECK.due("at the side on the left", x.side(0, 3), 0);
        x = Check.with("field 5 5;kind s reach 1;stone s red at 4 1;stone s red at 3 2;stone s red at 4 3;");
        CHECK.due("at the side on the right", x.side(0, 3), 0);
        x = Check.with("field 5 5;kind s reach 1;stone s red at 1 4;stone s red at 2 3;stone s red at 3 4;");
        CHECK.due("at the side below", x.side(0, 3), 0);
        // the whole rim, both slants barred: all that is inside is one part
        x = Check.with("field 6 6;kind s reach 5;stone s red at 0 0;stone s blue at 3 3;stone s red at 5 0;stone s blue at 2 3;"
            + "stone s red at 5 5;stone s red at 0 5;");
        CHECK.due("all but the rim", x.side(0, 3), 16);
        CHECK.due("in one part", x.side(0, 4), 1);
        x = Check.with("field 6 6;kind s reach 5;stone s red at 0 0;stone s red at 5 0;stone s red at 5 4;stone s red at 0 4;");
        CHECK.due("no slant between five across and four down", x.side(0, 3), 12);
        CHECK.due("one part", x.side(0, 4), 1);
        for (int place = 0; place < 36; place++) {
            boolean inside = place % 6 > 0 && place % 6 < 5 && place / 6 > 0 && place / 6 < 4;
            CHECK.due("SHUT IN at " + place, x.place(place, 5), inside ? 1 : 0);
        }
        // by both sides at once: blue's ring inside red's, whose slants blue bars
        x = Check.with("field 5 5;kind s reach 4;kind n reach 1;stone s red at 0 0;stone s red at 4 0;stone s red at 0 4;stone s red at 4 4;"
            + "stone n blue at 2 1;stone n blue at 1 2;stone n blue at 3 2;stone n blue at 2 3;stone n blue at 1 1;stone n blue at 3 1;");
        CHECK.due("by both", x.place(12, 5), 3);
        CHECK.due("a field without STONES", Check.with("field 7 5;").side(0, 3), 0);
    }

    // ---- days

    private static void firstDay() {
        CHECK.says("A DAY (0 at first): the side of the DAY (DAY modulo 2)");
        BorderStones x = Check.with("field 7 5;kind s reach 1;");
        for (int day = 0; day < 12; day++) {
            CHECK.due("DAY", x.has(4), day);
            if (day % 3 == 2) {
                x.set(0, -1);
            } else {
                x.set(0, day * 2);
                CHECK.due("the side of DAY " + day, x.place(day * 2, 0), day % 2);
            }
        }
    }

    private static void takenOrPasses() {
        CHECK.says("sets a STONE of a KIND on a place without one, or passes");
        BorderStones x = Check.with("field 3 3;kind a reach 1;kind b reach 2;");
        for (int place = 0; place < 9; place++) {
            CHECK.due("a free place", x.set(place % 2, place) >= 0, true);
            CHECK.due("its KIND", x.place(place, 1), place % 2);
            String before = Check.all(x);
            for (int taken = 0; taken <= place; taken++) {
                CHECK.due("a taken place", x.set(0, taken), -1);
            }
            CHECK.due("nothing was done", Check.all(x), before);
        }
        CHECK.due("a full field: one passes", x.set(0, -1), 0);
        CHECK.due("STONES", x.has(5), 9);
        CHECK.due("DAY", x.has(4), 10);
    }

    private static void answered() {
        CHECK.says("each is answered, if the STONE is in it; else at dusk all its places are LAND of the other side");
        // the middle row of 7 and 3 is shut in; red's STONE in it leaves two parts of two places, both new
        String told = "field 7 3;kind s reach 6;kind n reach 1;stone s red at 0 0;stone s red at 6 0;stone s red at 0 2;stone s red at 6 2;";
        int[][] answers = {{8, 11, 12}, {9, 11, 12}, {11, 8, 9}, {12, 8, 9}};
        for (int[] answer : answers) {
            BorderStones x = Check.with(told);
            CHECK.due("places OWED", x.set(1, 10), 4);
            CHECK.due("parts OWED", x.has(6), 2);
            x.set(1, answer[0]);
            CHECK.due("the other part is lost", x.place(answer[1], 2) + x.place(answer[2], 2), 0);
            CHECK.due("that one alone", x.side(0, 5), 2);
            CHECK.due("blue has nothing", x.side(1, 5), 0);
        }
        for (int place : new int[] {-1, 1, 7, 13, 19}) {
            BorderStones x = Check.with(told);
            x.set(1, 10);
            x.set(1, place);
            CHECK.due("no answer by " + place + ": all are lost", x.side(0, 5), 4);
        }
    }

    private static void owedOnce() {
        CHECK.says("Then nothing of that is OWED any more.");
        BorderStones x = Check.with(RING);
        CHECK.due("the ring", x.set(0, 7), 1);
        CHECK.due("OWED", x.place(4, 6), 1);
        x.set(0, 4);
        CHECK.due("answered: OWED no more", x.has(6) + x.has(7) + x.place(4, 6), 0);
        for (int i = 0; i < 4; i++) {
            x.set(0, -1);
            CHECK.due("it stays nobody's", x.place(4, 2), -1);
        }
        x = Check.with(RING);
        x.set(0, 7);
        x.set(0, -1);
        CHECK.due("lost: OWED no more", x.has(6) + x.has(7) + x.place(4, 6), 0);
        for (int i = 0; i < 4; i++) {
            x.set(0, -1);
            CHECK.due("it changed hands once", x.place(4, 7), 1);
        }
    }

    private static void notJustSo() {
        CHECK.says("Then each part that is SHUT IN by the side now, and was not just so (the same places) ahead of the STONE");
        BorderStones x = Check.with(RING + "stone s red at 1 2;");
        CHECK.due("shut in by the text", x.side(0, 4), 1);
        CHECK.due("a STONE elsewhere", x.set(0, 0), 0);
        x.set(0, -1);
        CHECK.due("a pass", x.set(0, -1), 0);
        CHECK.due("never OWED", x.has(6), 0);
        // beside a part that was so already, the new one alone is OWED
        x = Check.with("field 7 3;kind s reach 1;stone s red at 1 0;stone s red at 0 1;stone s red at 2 1;stone s red at 1 2;"
            + "stone s red at 5 0;stone s red at 4 1;stone s red at 6 1;");
        CHECK.due("one place", x.set(0, 19), 1);
        CHECK.due("of two parts", x.side(0, 4), 2);
        CHECK.due("the new one", x.place(12, 6), 1);
        CHECK.due("not the old one", x.place(8, 6), 0);
        // a STONE inside makes it other places: it is OWED, each part that is left
        x = Check.with("field 5 3;kind s reach 4;stone s red at 0 0;stone s red at 4 0;stone s red at 0 1;stone s red at 4 1;stone s red at 0 2;"
            + "stone s red at 4 2;kind c reach 1 child;stone c blue at 2 1;");
        CHECK.due("barred: three places", x.side(0, 3), 3);
        CHECK.due("in one part", x.side(0, 4), 1);
        CHECK.due("fewer places", x.set(1, 6), 2);
        CHECK.due("of one part", x.has(6), 1);
        x.set(0, -1);
        CHECK.due("fewer still, but all are red's LAND", x.set(1, 8), 0);
        // blue bars the upper row; a high STONE shuts in again just what was shut in before, but not ahead of it
        x = Check.with("field 5 3;kind s reach 4;kind h reach 4 high;stone s red at 0 0;stone s red at 4 0;stone s red at 0 2;stone s red at 4 2;");
        CHECK.due("shut in", x.side(0, 3), 3);
        x.set(0, -1);
        x.set(0, 2);
        CHECK.due("open", x.side(0, 3), 0);
        CHECK.due("shut in again", x.set(1, 1), 3);
    }

    private static void notItsLand() {
        CHECK.says("and has a place that is not its LAND, is OWED by the other side");
        // the row 6, 7, 8 in the middle of 5 and 3 is shut in by the last corner
        String row = "field 5 3;kind s reach 4;kind q reach 1;stone s red at 0 0;stone s red at 4 0;stone s red at 0 2;";
        String[] lands = {"", "land red at 1 1;", "land red at 1 1;land red at 2 1;", "land red at 1 1;land red at 2 1;land red at 3 1;",
            "land red at 1 1;land red at 2 1;land blue at 3 1;", "land blue at 1 1;land blue at 2 1;land blue at 3 1;"};
        int[] owed = {3, 3, 3, 0, 3, 3};
        int[] changed = {3, 2, 1, 0, 1, 3};
        for (int i = 0; i < lands.length; i++) {
            BorderStones x = Check.with(row + lands[i]);
            CHECK.due("OWED with " + lands[i], x.set(0, 14), owed[i]);
            CHECK.due("parts with " + lands[i], x.has(6), owed[i] / 3);
            x.set(1, 1);
            int all = x.place(6, 7) + x.place(7, 7) + x.place(8, 7);
            CHECK.due("changed with " + lands[i], all, changed[i]);
            CHECK.due("red's with " + lands[i], x.side(0, 5), 3);
        }
        CHECK.says("how often its LAND came to be another side's (or a side's that was nobody's)");
        BorderStones x = Check.with(row + lands[4]);
        x.set(0, 14);
        x.set(0, -1);
        CHECK.due("red's stays red's: no change", x.place(6, 7), 0);
        CHECK.due("blue's comes to be red's", x.place(8, 7), 1);
    }

    private static void lastDay() {
        CHECK.says("DAY is one more; on DAY 200 nothing can be done.");
        BorderStones x = Check.with("field 3 3;kind s reach 1;");
        for (int day = 0; day < 199; day++) {
            x.set(0, -1);
        }
        CHECK.due("DAY 199", x.has(4), 199);
        CHECK.due("a STONE, by blue", x.set(0, 8), 0);
        CHECK.due("blue's", x.place(8, 0), 1);
        CHECK.due("DAY 200", x.has(4), 200);
        String before = Check.all(x);
        CHECK.due("set", x.set(0, 0), -1);
        CHECK.due("a pass", x.set(0, -1), -1);
        CHECK.due("threat", x.threat(0, 0, 0), -1);
        CHECK.due("fork", x.fork(0), -1);
        CHECK.due("play", x.play(1, 0), BorderStones.NOTHING);
        CHECK.due("thumb", x.thumb(0, 1, 0), BorderStones.NOTHING);
        CHECK.due("year", x.year(1), -1);
        CHECK.due("nothing was done", Check.all(x), before);
        CHECK.due("DAYS to undo", x.has(8), 40);
        CHECK.due("it can be undone", x.undo(), true);
        CHECK.due("then one can go on", x.set(0, 0), 0);
        CHECK.due("DAY 200 again", x.has(4), 200);
        CHECK.due("its image", x.image(), 20);
        CHECK.due("tells DAY 200", x.octet(0), 200);
    }

    // ---- what is told

    private static void hasBounds() {
        CHECK.says("8 DAYS that can be undone. NONE for others.");
        BorderStones x = Check.with(RING);
        x.set(0, 7);
        int[] want = {3, 3, 1, 0, 1, 4, 1, 1, 1};
        for (int what = 0; what < 9; what++) {
            CHECK.due("has(" + what + ")", x.has(what), want[what]);
        }
        CHECK.due("has(-1)", x.has(-1), -1);
        CHECK.due("has(9)", x.has(9), -1);
        for (int what : WILD) {
            CHECK.due("has(" + what + ")", x.has(what), -1);
        }
    }

    private static void letterBounds() {
        CHECK.says("Letter k (0 .. 5) of the NAME of a KIND: 1 .. 26; 0 behind it; NONE when there is none such.");
        BorderStones x = Check.with("field 3 3;kind abcxyz reach 1;kind z reach 1;kind lmnop reach 1;kind q reach 1;kind rs reach 1;");
        int[][] want = {{1, 2, 3, 24, 25, 26}, {26, 0, 0, 0, 0, 0}, {12, 13, 14, 15, 16, 0}, {17, 0, 0, 0, 0, 0}, {18, 19, 0, 0, 0, 0}};
        for (int kind = 0; kind < 5; kind++) {
            for (int k = 0; k < 6; k++) {
                CHECK.due("letter(" + kind + ", " + k + ")", x.letter(kind, k), want[kind][k]);
            }
            CHECK.due("letter(" + kind + ", -1)", x.letter(kind, -1), -1);
            CHECK.due("letter(" + kind + ", 6)", x.letter(kind, 6), -1);
        }
        CHECK.due("letter(5, 0)", x.letter(5, 0), -1);
        CHECK.due("letter(-1, 0)", x.letter(-1, 0), -1);
        for (int wild : WILD) {
            CHECK.due("letter(" + wild + ", 0)", x.letter(wild, 0), -1);
            CHECK.due("letter(0, " + wild + ")", x.letter(0, wild), -1);
        }
        CHECK.due("fewer KINDS", Check.with(RING).letter(1, 0), -1);
    }

    private static void kindBounds() {
        CHECK.says("2 how many STONES of it are red, 3 blue. NONE when there is none such, or for others.");
        BorderStones x = Check.with("field 3 3;kind a reach 6 child;kind b reach 2 sunk;stone a red at 0 0;stone a red at 1 0;stone b blue at 2 0;");
        int[][] want = {{6, 4, 2, 0}, {2, 2, 0, 1}};
        for (int kind = 0; kind < 2; kind++) {
            for (int what = 0; what < 4; what++) {
                CHECK.due("kind(" + kind + ", " + what + ")", x.kind(kind, what), want[kind][what]);
            }
            CHECK.due("kind(" + kind + ", -1)", x.kind(kind, -1), -1);
            CHECK.due("kind(" + kind + ", 4)", x.kind(kind, 4), -1);
        }
        for (int what = 0; what < 4; what++) {
            CHECK.due("kind(2, " + what + ")", x.kind(2, what), -1);
            CHECK.due("kind(-1, " + what + ")", x.kind(-1, what), -1);
        }
        for (int wild : WILD) {
            CHECK.due("kind(" + wild + ", 0)", x.kind(wild, 0), -1);
            CHECK.due("kind(0, " + wild + ")", x.kind(0, wild), -1);
        }
    }

    private static void placeBounds() {
        CHECK.says("6 whether it is OWED, 7 CHANGES. NONE when there is none such, or for others.");
        for (String size : new String[] {"3 3", "7 5", "6 6"}) {
            BorderStones x = Check.with("field " + size + ";kind s reach 1;");
            int places = x.has(0) * x.has(1);
            int[] want = {-1, -1, -1, 1, 0, 0, 0, 0};
            for (int what = 0; what < 8; what++) {
                CHECK.due("the first place, " + what, x.place(0, what), want[what]);
                CHECK.due("the last place, " + what, x.place(places - 1, what), want[what]);
                CHECK.due("one behind, " + what, x.place(places, what), -1);
                CHECK.due("one ahead, " + what, x.place(-1, what), -1);
                CHECK.due("far ahead, " + what, x.place(Integer.MIN_VALUE, what), -1);
                CHECK.due("far behind, " + what, x.place(64, what), -1);
            }
            CHECK.due("place(0, 8)", x.place(0, 8), -1);
            CHECK.due("place(0, -1)", x.place(0, -1), -1);
            for (int wild : WILD) {
                CHECK.due("place(0, " + wild + ")", x.place(0, wild), -1);
            }
        }
    }

    private static void sideBounds() {
        CHECK.says("5 its LAND (places), 6 WORTH of that. NONE when there is none such, or for others.");
        BorderStones x = Check.with("field 3 3;kind s reach 1;stone s red at 1 0;stone s red at 0 1;stone s red at 2 1;stone s red at 1 2;"
            + "land red at 1 1;land red at 0 0;land blue at 2 2;worth 99 when across = 0;worth 7 when all;");
        int[][] want = {{4, 4, 4, 1, 1, 2, 106}, {0, 0, 0, 0, 0, 1, 7}};
        for (int side = 0; side < 2; side++) {
            for (int what = 0; what < 7; what++) {
                CHECK.due("side(" + side + ", " + what + ")", x.side(side, what), want[side][what]);
            }
            CHECK.due("side(" + side + ", 7)", x.side(side, 7), -1);
            CHECK.due("side(" + side + ", -1)", x.side(side, -1), -1);
        }
        for (int what = 0; what < 7; what++) {
            CHECK.due("side(2, " + what + ")", x.side(2, what), -1);
            CHECK.due("side(-1, " + what + ")", x.side(-1, what), -1);
        }
        for (int wild : WILD) {
            CHECK.due("side(" + wild + ", 0)", x.side(wild, 0), -1);
            CHECK.due("side(0, " + wild + ")", x.side(0, wild), -1);
        }
        StringBuilder all = new StringBuilder("field 6 6;worth 9999 when all;");
        for (int place = 0; place < 36; place++) {
            all.append("land blue at ").append(place % 6).append(' ').append(place / 6).append(';');
        }
        CHECK.due("the greatest WORTH", Check.with(all.toString()).side(1, 6), 36 * 99);
    }

    // ---- setting, passing, undoing

    private static void setRefused() {
        CHECK.says("places that come to be OWED by the other side; NONE when it can't be.");
        BorderStones none = new BorderStones();
        CHECK.due("no field", none.set(0, 0), -1);
        CHECK.due("no field, a pass", none.set(0, -1), -1);
        CHECK.due("no field: no DAY goes by", none.has(4), 0);
        BorderStones x = Check.with(RING + "kind t reach 2;");
        String before = Check.all(x);
        for (int wild : new int[] {-1, 2, 3, 4, 5, 36, Integer.MIN_VALUE, Integer.MAX_VALUE}) {
            CHECK.due("set(" + wild + ", 7)", x.set(wild, 7), -1);
        }
        for (int wild : new int[] {-2, 9, 10, 35, 36, 64, 71, Integer.MIN_VALUE, Integer.MAX_VALUE}) {
            CHECK.due("set(0, " + wild + ")", x.set(0, wild), -1);
        }
        CHECK.due("a place with its own STONE", x.set(0, 1), -1);
        CHECK.due("without a KIND", Check.with("field 3 3;").set(0, 0), -1);
        CHECK.due("nothing was done", Check.all(x), before);
        CHECK.due("nothing to undo", x.has(8), 0);
        CHECK.due("the last KIND", x.set(1, 7), 1);
    }

    private static void passing() {
        CHECK.says("(place NONE: it passes, KIND counts for nothing)");
        BorderStones x = Check.with(RING);
        int day = 0;
        for (int kind : new int[] {0, 1, -1, 5, Integer.MIN_VALUE, Integer.MAX_VALUE}) {
            CHECK.due("pass with KIND " + kind, x.set(kind, -1), 0);
            day++;
            CHECK.due("DAY", x.has(4), day);
            CHECK.due("no STONE", x.has(5), 3);
        }
        CHECK.due("on a field without KINDS", Check.with("field 3 3;").set(0, -1), 0);
    }

    private static void undoBounds() {
        CHECK.says("(the last 40 DAYS can be): true; false when none can be.");
        CHECK.due("a new object", new BorderStones().undo(), false);
        for (int days : new int[] {0, 1, 39, 40, 41, 42, 79, 80, 81, 200}) {
            BorderStones x = Check.with("field 3 3;kind s reach 1;");
            for (int i = 0; i < days; i++) {
                x.set(0, i == days - 1 ? 4 : -1);
            }
            int can = Math.min(days, 40);
            CHECK.due("DAYS to undo of " + days, x.has(8), can);
            for (int i = 0; i < can; i++) {
                CHECK.due("undo " + i + " of " + days, x.undo(), true);
                CHECK.due("DAY", x.has(4), days - 1 - i);
                CHECK.due("DAYS to undo", x.has(8), can - 1 - i);
                CHECK.due("no STONE", x.has(5), 0);
            }
            CHECK.due("one more of " + days, x.undo(), false);
            CHECK.due("DAY at last", x.has(4), days - can);
        }
        // what is undone makes room: thirty, ten back, twenty on
        BorderStones x = Check.with("field 3 3;kind s reach 1;");
        for (int i = 0; i < 30; i++) {
            x.set(0, -1);
        }
        for (int i = 0; i < 10; i++) {
            x.undo();
        }
        for (int i = 0; i < 20; i++) {
            x.set(0, -1);
        }
        CHECK.due("all forty", x.has(8), 40);
        x.set(0, -1);
        CHECK.due("not one more", x.has(8), 40);
    }

    /** Days with threats, answers and losses, and what was told on each: undoing tells it all again, backward. */
    private static void allAsItWas() {
        CHECK.says("The latest DAY is undone: all is as it was ahead of it");
        for (int start = 0; start < 60; start++) {
            BorderStones x = Check.with("field 5 5;kind s reach 2;kind h reach 4 high;kind c reach 1 child;kind u reach 3 sunk;"
                + "stone s red at 2 0;stone s red at 0 2;stone s red at 4 2;stone s blue at 1 1;land blue at 2 2;land red at 2 3;");
            List<String> told = new ArrayList<>();
            int place = start;
            for (int i = 0; i < 45; i++) {
                told.add(Check.all(x));
                place = (place * 7 + 3 + i) % 29;
                if (x.set((i + start) % 4, place < 25 ? place : -1) == BorderStones.NONE) {
                    x.set(0, -1);
                }
            }
            CHECK.due("forty can be", x.has(8), 40);
            for (int i = 44; i >= 5; i--) {
                CHECK.due("undo", x.undo(), true);
                CHECK.due("DAY " + i + " of run " + start, Check.all(x), told.get(i));
            }
        }
    }

    /** A STONE that is undone leaves nothing of its KIND behind, wherever it was and whatever is set there then. */
    private static void marksUndone() {
        CHECK.says("The latest DAY is undone: all is as it was ahead of it");
        String text = "field 7 3;kind n reach 6;kind h reach 6 high;kind u reach 6 sunk;kind c reach 6 child;kind t reach 1;"
            + "stone n red at 0 1;stone n red at 6 1;stone n blue at 3 0;stone n blue at 3 2;stone n red at 0 0;stone n red at 6 0;stone n red at 6 2;";
        for (int place : new int[] {10, 14, 1}) {
            for (int second = 0; second < 5; second++) {
                BorderStones fresh = Check.with(text);
                fresh.set(second, place);
                String want = Check.all(fresh) + Check.asked(fresh);
                for (int first = 0; first < 5; first++) {
                    BorderStones x = Check.with(text);
                    x.set(first, place);
                    x.undo();
                    x.set(second, place);
                    CHECK.due("KIND " + second + " behind " + first + " at " + place, Check.all(x) + Check.asked(x), want);
                }
            }
        }
    }
}
