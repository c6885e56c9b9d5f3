/** Promises 6 to 12: what is told of the field, its kinds, places and sides; days and undoing them. */
public final class FieldTest {
    private static final Check CHECK = new Check();
    /** Red has three of the four stones that shut in the middle, place 12. */
    private static final String NEARLY = "field 5 5;kind s reach 1;kind far reach 6 high sunk child;stone s red at 2 1;"
        + "stone s red at 1 2;stone s red at 3 2;stone s blue at 0 0;stone far blue at 4 4;land blue at 2 2;worth edge+1 when all;";

    public static void main(String[] args) {
        has();
        letters();
        kinds();
        places();
        sides();
        lines();
        shutIn();
        setting();
        passing();
        owedAnew();
        ownLand();
        undoing();
        lastDay();
        CHECK.close("FieldTest");
    }

    private static void has() {
        BorderStones x = Check.with(NEARLY);
        int[] want = {5, 5, 2, 1, 0, 5, 0, 0, 0};
        for (int what = 0; what < want.length; what++) {
            CHECK.due("has(" + what + ")", x.has(what), want[what]);
        }
        CHECK.due("has(9)", x.has(9), -1);
        CHECK.due("has(-1)", x.has(-1), -1);
        x.set(0, 17);
        CHECK.due("DAY", x.has(4), 1);
        CHECK.due("STONES", x.has(5), 6);
        CHECK.due("parts OWED", x.has(6), 1);
        CHECK.due("places OWED", x.has(7), 1);
        CHECK.due("to undo", x.has(8), 1);
    }

    private static void letters() {
        BorderStones x = Check.with("field 3 3;kind az reach 1;kind abcdef reach 1;");
        int[] want = {1, 26, 0, 0, 0, 0, -1};
        for (int k = 0; k < want.length; k++) {
            CHECK.due("letter(0, " + k + ")", x.letter(0, k), want[k]);
        }
        CHECK.due("letter(1, 5)", x.letter(1, 5), 6);
        CHECK.due("letter(1, 6)", x.letter(1, 6), -1);
        CHECK.due("letter(0, -1)", x.letter(0, -1), -1);
        CHECK.due("letter(2, 0)", x.letter(2, 0), -1);
        CHECK.due("letter(-1, 0)", x.letter(-1, 0), -1);
        // A name that is told shorter later on has nothing of a longer one behind it.
        Check.feed(x, "field 3 3;kind b reach 1;");
        x.border();
        CHECK.due("letter(0, 0) anew", x.letter(0, 0), 2);
        CHECK.due("letter(0, 1) anew", x.letter(0, 1), 0);
        CHECK.due("letter(1, 0) anew", x.letter(1, 0), -1);
    }

    private static void kinds() {
        BorderStones x = Check.with(NEARLY);
        int[][] want = {{1, 0, 3, 1, -1}, {6, 7, 0, 1, -1}};
        for (int kind = 0; kind < 2; kind++) {
            for (int what = 0; what < 5; what++) {
                CHECK.due("kind(" + kind + ", " + what + ")", x.kind(kind, what), want[kind][what]);
            }
        }
        CHECK.due("kind(2, 0)", x.kind(2, 0), -1);
        CHECK.due("kind(-1, 0)", x.kind(-1, 0), -1);
        CHECK.due("kind(0, -1)", x.kind(0, -1), -1);
        x.set(1, 3);
        x.set(0, 9);
        CHECK.due("red ones, one set", x.kind(1, 2), 1);
        CHECK.due("blue ones, one set", x.kind(0, 3), 2);
        x = Check.with("field 3 3;kind a reach 1 high;kind b reach 2 sunk;kind c reach 3 child;kind d reach 4 child high;");
        int[] marks = {1, 2, 4, 5};
        for (int kind = 0; kind < 4; kind++) {
            CHECK.due("MARKS of " + kind, x.kind(kind, 1), marks[kind]);
            CHECK.due("reach of " + kind, x.kind(kind, 0), kind + 1);
        }
    }

    private static void place(BorderStones x, int place, int... want) {
        for (int what = 0; what < want.length; what++) {
            CHECK.due("place(" + place + ", " + what + ")", x.place(place, what), want[what]);
        }
    }

    private static void places() {
        BorderStones x = Check.with(NEARLY);
        place(x, 12, -1, -1, 1, 3, 0, 0, 0, 0, -1);
        place(x, 7, 0, 0, -1, 2, 1, 0, 0, 0, -1);
        place(x, 24, 1, 1, -1, 1, 2, 0, 0, 0, -1);
        place(x, 25, -1, -1, -1, -1);
        place(x, -1, -1, -1, -1, -1);
        CHECK.due("place(0, -1)", x.place(0, -1), -1);
        x.set(0, 17);
        place(x, 12, -1, -1, 1, 3, 0, 1, 1, 0, -1);
        x.set(0, -1);
        place(x, 12, -1, -1, 0, 3, 0, 1, 0, 1, -1);
        // Both sides' lines meet on a place without a stone.
        x = Check.with("field 5 5;kind s reach 4;stone s red at 0 2;stone s red at 4 2;stone s blue at 2 0;stone s blue at 2 4;");
        CHECK.due("on both edges", x.place(12, 4), 3);
        CHECK.due("on red's edge", x.place(11, 4), 1);
        CHECK.due("on blue's edge", x.place(7, 4), 2);
    }

    private static void sides() {
        BorderStones x = Check.with(NEARLY);
        int[][] want = {{3, 2, 3, 0, 0, 0, 0, -1}, {2, 0, 2, 0, 0, 1, 3, -1}};
        for (int side = 0; side < 2; side++) {
            for (int what = 0; what < 8; what++) {
                CHECK.due("side(" + side + ", " + what + ")", x.side(side, what), want[side][what]);
            }
        }
        CHECK.due("side(-1, 0)", x.side(-1, 0), -1);
        CHECK.due("side(2, 0)", x.side(2, 0), -1);
        CHECK.due("side(0, -1)", x.side(0, -1), -1);
        x.set(0, 17);
        x.set(0, -1);
        int[] red = {4, 4, 4, 1, 1, 1, 3};
        for (int what = 0; what < red.length; what++) {
            CHECK.due("later side(0, " + what + ")", x.side(0, what), red[what]);
        }
    }

    /** Red's lines and edge on a row of seven places; m in the text is what stands between. */
    private static void row(int lines, int edge, String stones) {
        BorderStones x = Check.with("field 7 3;kind n reach 4;kind h reach 4 high;kind u reach 4 sunk;kind c reach 4 child;kind t reach 3;"
            + stones);
        CHECK.due("lines of " + stones, x.side(0, 1), lines);
        CHECK.due("edge of " + stones, x.side(0, 2), edge);
    }

    private static void lines() {
        row(1, 5, "stone n red at 1 1;stone n red at 5 1;");
        row(0, 2, "stone n red at 0 1;stone n red at 5 1;");
        row(0, 2, "stone n red at 1 1;stone t red at 5 1;");
        row(1, 4, "stone n red at 1 1;stone t red at 4 1;");
        row(0, 2, "stone n red at 1 1;stone n red at 5 1;stone n blue at 3 1;");
        row(1, 5, "stone n red at 1 1;stone n red at 5 1;stone u blue at 3 1;stone u blue at 4 1;");
        row(0, 2, "stone n red at 1 1;stone n red at 5 1;stone u blue at 3 1;stone n blue at 4 1;");
        row(1, 5, "stone h red at 1 1;stone n red at 5 1;stone n blue at 3 1;stone n blue at 4 1;");
        row(1, 5, "stone n red at 1 1;stone h red at 5 1;stone n blue at 3 1;stone n blue at 2 1;");
        row(0, 2, "stone n red at 1 1;stone c red at 5 1;");
        row(0, 2, "stone c red at 1 1;stone n red at 5 1;");
        row(2, 5, "stone n red at 1 1;stone n red at 3 1;stone n red at 5 1;");
        row(3, 5, "stone n red at 1 1;stone u red at 3 1;stone n red at 5 1;");
        row(0, 3, "stone n red at 1 1;stone c red at 3 1;stone n red at 5 1;");
        row(1, 3, "stone n red at 1 0;stone n red at 3 2;");
        row(1, 3, "stone n red at 3 0;stone n red at 1 2;");
        row(1, 3, "stone n red at 3 0;stone n red at 3 2;");
        row(0, 2, "stone n red at 3 0;stone n red at 4 2;");
        row(1, 2, "stone n red at 3 0;stone n red at 4 0;");
        row(0, 2, "stone n red at 6 0;stone n red at 0 1;");
        row(0, 1, "stone n red at 1 1;stone n blue at 3 1;");
    }

    private static void shutIn() {
        BorderStones x = Check.with("field 5 5;kind s reach 4;stone s red at 1 0;stone s red at 3 0;stone s red at 1 4;stone s red at 3 4;");
        // Two columns, a row and slants: the middle column's places 7, 12, 17 lie apart from the sides.
        CHECK.due("shut in places", x.side(0, 3), 3);
        CHECK.due("shut in parts", x.side(0, 4), 1);
        CHECK.due("by red", x.place(12, 5), 1);
        CHECK.due("at the side of the field", x.place(10, 5), 0);
        CHECK.due("on the edge", x.place(11, 5), 0);
        // The other side's stone inside lies in the part too.
        x = Check.with("field 3 3;kind s reach 1;stone s red at 1 0;stone s red at 0 1;stone s red at 2 1;stone s red at 1 2;stone s blue at 1 1;");
        CHECK.due("a stone that is shut in", x.place(4, 5), 1);
        CHECK.due("is on its own edge", x.place(4, 4), 2);
        CHECK.due("nothing is OWED of a told border", x.has(6), 0);
    }

    private static void setting() {
        BorderStones x = Check.with(NEARLY);
        CHECK.due("a place with a stone", x.set(0, 7), -1);
        CHECK.due("no kind", x.set(2, 17), -1);
        CHECK.due("kind below 0", x.set(-1, 17), -1);
        CHECK.due("place 25", x.set(0, 25), -1);
        CHECK.due("place -2", x.set(0, -2), -1);
        CHECK.due("all that did nothing", x.has(4), 0);
        CHECK.due("the fourth stone", x.set(0, 17), 1);
        CHECK.due("red set it", x.place(17, 0), 0);
        CHECK.due("blue elsewhere", x.set(0, 1), 0);
        CHECK.due("blue set it", x.place(1, 0), 1);
        CHECK.due("the land is lost", x.place(12, 2), 0);
        CHECK.due("and changed", x.place(12, 7), 1);
        CHECK.due("nothing OWED", x.has(7), 0);
        x = Check.with(NEARLY);
        x.set(0, 17);
        CHECK.due("an answer", x.set(1, 12), 0);
        CHECK.due("the land stays", x.place(12, 2), 1);
        CHECK.due("no change", x.place(12, 7), 0);
        CHECK.due("still shut in", x.place(12, 5), 1);
        CHECK.due("red passes", x.set(0, -1), 0);
        CHECK.due("the part was so already", x.has(6), 0);
    }

    private static void passing() {
        BorderStones x = Check.with("field 3 3;");
        CHECK.due("passing without kinds", x.set(99, -1), 0);
        CHECK.due("a day more", x.has(4), 1);
        CHECK.due("setting without kinds", x.set(0, 0), -1);
        x = Check.with("field 3 3;kind s reach 1;");
        CHECK.due("passing with no such kind", x.set(-7, -1), 0);
        x.set(0, 0);
        CHECK.due("the second day is blue's", x.place(0, 0), 1);
    }

    private static void owedAnew() {
        // A stone of its own inside makes the part another one: it is OWED anew, in two parts here.
        BorderStones x = Check.with("field 5 5;kind s reach 4;stone s red at 1 0;stone s red at 3 0;stone s red at 1 4;stone s red at 3 4;");
        CHECK.due("two parts of one", x.set(0, 12), 2);
        CHECK.due("parts OWED", x.has(6), 2);
        CHECK.due("one is answered", x.set(0, 7), 0);
        CHECK.due("that one stays nobody's", x.place(7, 2), -1);
        CHECK.due("the other one is lost", x.place(17, 2), 0);
        // A child bars a line of its own side: what that line lay on is shut in now, left and right of the child.
        x = Check.with("field 5 3;kind c reach 1 child;kind s reach 4;stone s red at 0 0;stone s red at 4 0;"
            + "stone s red at 0 1;stone s red at 4 1;stone s red at 0 2;stone s red at 4 2;");
        CHECK.due("a line over the whole row", x.side(0, 2), 15);
        CHECK.due("a child bars the row", x.set(0, 7), 2);
        CHECK.due("in two parts", x.has(6), 2);
        CHECK.due("edge without the middle row", x.side(0, 2), 13);
        // The other side's stone opens a part; to shut the same places in again makes them OWED again.
        x = Check.with("field 5 5;kind s reach 2;kind w reach 6 high;stone s red at 2 0;stone s red at 0 2;stone s red at 4 2;stone s red at 2 4;");
        CHECK.due("shut in by four slants", x.side(0, 3), 5);
        x.set(0, -1);
        CHECK.due("blue bars a slant", x.set(0, 6), 0);
        CHECK.due("it is open", x.side(0, 3), 0);
        CHECK.due("red's day", x.set(0, -1), 0);
        CHECK.due("nothing new by a pass", x.has(6), 0);
    }

    private static void ownLand() {
        String told = "field 3 3;kind s reach 1;stone s red at 1 0;stone s red at 0 1;stone s red at 2 1;";
        BorderStones x = Check.with(told + "land red at 1 1;");
        CHECK.due("a part of its own land alone is not OWED", x.set(0, 7), 0);
        x = Check.with(told + "land blue at 1 1;");
        CHECK.due("one of the other side's land is", x.set(0, 7), 1);
        x = Check.with(told);
        CHECK.due("one of nobody's land is", x.set(0, 7), 1);
        x.set(0, -1);
        CHECK.due("nobody's land changed hands", x.place(4, 7), 1);
        CHECK.due("red's now", x.place(4, 2), 0);
    }

    private static void undoing() {
        BorderStones x = Check.with(NEARLY);
        CHECK.due("nothing to undo", x.undo(), false);
        x.set(0, 17);
        x.set(0, -1);
        CHECK.due("undo the pass", x.undo(), true);
        CHECK.due("the land is back", x.place(12, 2), 1);
        CHECK.due("the change is back", x.place(12, 7), 0);
        CHECK.due("it is OWED again", x.place(12, 6), 1);
        CHECK.due("DAY 1", x.has(4), 1);
        CHECK.due("undo the stone", x.undo(), true);
        CHECK.due("the stone is gone", x.place(17, 0), -1);
        CHECK.due("its kind too", x.place(17, 1), -1);
        CHECK.due("nothing OWED", x.has(6), 0);
        CHECK.due("no more", x.undo(), false);
        CHECK.due("DAY 0", x.has(4), 0);
        x = Check.with("field 3 3;kind s reach 1;");
        for (int i = 0; i < 45; i++) {
            x.set(0, -1);
            CHECK.due("days that can be undone", x.has(8), Math.min(i + 1, 40));
        }
        for (int i = 0; i < 40; i++) {
            CHECK.due("undo " + i, x.undo(), true);
        }
        CHECK.due("the 41st", x.undo(), false);
        CHECK.due("DAY 5", x.has(4), 5);
        CHECK.due("a refused stone", x.set(0, 9), -1);
        CHECK.due("is no day", x.undo(), false);
        // Marks of a stone that is undone are gone with it.
        x = Check.with("field 7 3;kind h reach 6 high;kind n reach 6;stone n red at 6 1;stone n blue at 3 1;");
        x.set(0, 7);
        CHECK.due("a high stone's line", x.side(0, 1), 1);
        x.undo();
        x.set(1, 7);
        CHECK.due("none of a plain one", x.side(0, 1), 0);
    }

    private static void lastDay() {
        BorderStones x = Check.with("field 3 3;kind s reach 1;");
        for (int i = 0; i < 200; i++) {
            CHECK.due("day " + i, x.set(0, -1), 0);
        }
        CHECK.due("DAY 200", x.has(4), 200);
        CHECK.due("no pass", x.set(0, -1), -1);
        CHECK.due("no stone", x.set(0, 0), -1);
        CHECK.due("no threat", x.threat(0, 0, 0), -1);
        CHECK.due("no year", x.year(1), -1);
        CHECK.due("no play", x.play(1, 0), -1000000000);
        CHECK.due("no thumb", x.thumb(0, 1, 0), -1000000000);
        CHECK.due("undo", x.undo(), true);
        CHECK.due("no play of two days", x.play(2, 0), -1000000000);
        CHECK.due("a play of one", x.play(1, 0), 0);
        CHECK.due("a stone", x.set(0, 0), 0);
    }
}
