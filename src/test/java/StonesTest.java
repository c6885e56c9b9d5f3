/** Promises 13 to 18: threats, answers, forks, lines, plays and rules of thumb. */
public final class StonesTest {
    private static final Check CHECK = new Check();
    private static final int NOTHING = BorderStones.NOTHING;
    private static final String NEARLY = "field 5 5;kind s reach 1;kind c reach 1 child;stone s red at 2 1;"
        + "stone s red at 1 2;stone s red at 3 2;stone s blue at 0 0;land blue at 2 2;worth edge + 1 when all;";
    /** A red stone at 2 1 shuts in 1 1 and 3 1 at once. */
    private static final String FORKED = "field 5 3;kind s reach 1;kind w reach 2;stone s red at 1 0;stone s red at 0 1;stone s red at 1 2;"
        + "stone s red at 3 0;stone s red at 4 1;stone s red at 3 2;";

    public static void main(String[] args) {
        threats();
        dusk();
        answers();
        forks();
        lines();
        plays();
        refusedPlays();
        thumbs();
        thumbByPlaces();
        CHECK.close("StonesTest");
    }

    private static void threats() {
        BorderStones x = Check.with(NEARLY);
        CHECK.due("places", x.threat(0, 17, 0), 1);
        CHECK.due("parts", x.threat(0, 17, 1), 1);
        CHECK.due("answered", x.threat(0, 17, 2), 0);
        CHECK.due("no such what", x.threat(0, 17, 3), -1);
        CHECK.due("what below 0", x.threat(0, 17, -1), -1);
        CHECK.due("a place with a stone", x.threat(0, 7, 0), -1);
        CHECK.due("no place", x.threat(0, 25, 0), -1);
        CHECK.due("a pass is no stone", x.threat(0, -1, 0), -1);
        CHECK.due("no kind", x.threat(2, 17, 0), -1);
        CHECK.due("no kind below 0", x.threat(-1, 17, 0), -1);
        CHECK.due("a child is on the edge too", x.threat(1, 17, 0), 1);
        CHECK.due("elsewhere", x.threat(0, 3, 0), 0);
        CHECK.due("nothing was set", x.has(5), 4);
        CHECK.due("no day went by", x.has(4), 0);
        x.set(0, 17);
        CHECK.due("blue answers", x.threat(0, 12, 2), 1);
        CHECK.due("blue does not", x.threat(0, 11 + 5, 2), 0);
        CHECK.due("the land stays", x.place(12, 2), 1);
        CHECK.due("still OWED", x.has(7), 1);
    }

    /** What is lost at dusk is no longer the side's land when its own new parts are looked at. */
    private static void dusk() {
        BorderStones x = Check.with("field 5 5;kind s reach 2;kind q reach 1 sunk;kind u reach 2 sunk;land red at 2 2;"
            + "stone s blue at 2 0;stone s blue at 0 2;stone s blue at 4 2;"
            + "stone q red at 2 1;stone q red at 1 2;stone q red at 3 2;stone u red at 1 3;");
        CHECK.due("red shuts in its own land", x.threat(2, 18, 0), 0);
        x.set(0, -1);
        CHECK.due("blue shuts in five", x.set(0, 22), 5);
        CHECK.due("red would shut in what it lost", x.threat(2, 18, 0), 1);
        CHECK.due("and answer nothing", x.threat(2, 18, 2), 0);
        CHECK.due("that breaks the truce", x.truce(-1), 0);
        CHECK.due("red does", x.set(2, 18), 1);
        CHECK.due("the land is blue's", x.place(12, 2), 1);
        CHECK.due("and OWED", x.place(12, 6), 1);
        x.set(0, -1);
        CHECK.due("then red's again", x.place(12, 2), 0);
        CHECK.due("twice changed", x.place(12, 7), 2);
        CHECK.due("once changed", x.place(17, 7), 1);
    }

    private static void answers() {
        BorderStones x = Check.with(NEARLY);
        CHECK.due("nothing is OWED", x.answer(-1), 0);
        CHECK.due("no first", x.answer(0), -1);
        x.set(0, 17);
        CHECK.due("one place", x.answer(-1), 1);
        CHECK.due("the middle", x.answer(0), 12);
        CHECK.due("no second", x.answer(1), -1);
        CHECK.due("k -2", x.answer(-2), -1);
        // A part with a stone in it: only places without one.
        x = Check.with("field 5 3;kind s reach 4;stone s red at 0 0;stone s red at 4 0;stone s red at 0 2;stone s red at 0 1;stone s red at 4 1;"
            + "stone s blue at 2 1;");
        CHECK.due("shut in with a blue stone", x.set(0, 14), 3);
        CHECK.due("two places", x.answer(-1), 2);
        CHECK.due("left", x.answer(0), 6);
        CHECK.due("right", x.answer(1), 8);
        CHECK.due("no third", x.answer(2), -1);
        // Two parts: no stone answers both.
        x = Check.with(FORKED);
        CHECK.due("two parts", x.set(0, 7), 2);
        CHECK.due("no answer to both", x.answer(-1), 0);
        CHECK.due("no place", x.answer(0), -1);
    }

    private static void forks() {
        BorderStones x = Check.with(FORKED);
        CHECK.due("the fork", x.fork(0), 7);
        CHECK.due("by the other kind", x.fork(1), 7);
        CHECK.due("no kind", x.fork(2), -1);
        CHECK.due("no kind below 0", x.fork(-1), -1);
        CHECK.due("two parts", x.threat(0, 7, 1), 2);
        CHECK.due("two places", x.threat(0, 7, 0), 2);
        x.set(0, -1);
        CHECK.due("blue has none", x.fork(0), -1);
        CHECK.due("none of one part", Check.with(NEARLY).fork(0), -1);
        // The last corner: two new sides and a slant, that part the middle into four.
        x = Check.with("field 5 5;kind s reach 4;stone s red at 4 0;stone s red at 0 4;stone s red at 4 4;");
        CHECK.due("a corner", x.fork(0), 0);
        CHECK.due("in four parts", x.threat(0, 0, 1), 4);
    }

    private static void lines() {
        BorderStones x = Check.with("field 5 5;kind n reach 2;kind h reach 6 high;stone n red at 0 0;stone n red at 2 2;stone n red at 2 0;"
            + "stone n red at 1 2;stone n blue at 1 1;stone n blue at 3 3;stone h red at 4 0;");
        CHECK.due("barred", x.line(0, 12), 0);
        CHECK.due("a row", x.line(0, 2), 1);
        CHECK.due("the other way", x.line(2, 0), 1);
        CHECK.due("a column", x.line(2, 12), 1);
        CHECK.due("no row, column or slant", x.line(0, 11), 0);
        CHECK.due("too far for one", x.line(0, 4), 0);
        CHECK.due("a slant up to a high one", x.line(12, 4), 1);
        CHECK.due("blue's, barred by red", x.line(6, 18), 0);
        CHECK.due("of two sides", x.line(0, 6), -1);
        CHECK.due("no stone there", x.line(0, 1), -1);
        CHECK.due("no stone here", x.line(1, 0), -1);
        CHECK.due("one stone alone", x.line(0, 0), -1);
        CHECK.due("no place", x.line(0, 25), -1);
        CHECK.due("no place 66", x.line(0, 66), -1);
        CHECK.due("no place 64", x.line(64, 2), -1);
        CHECK.due("no place below 0", x.line(-1, 0), -1);
    }

    private static void plays() {
        BorderStones x = Check.with(NEARLY);
        CHECK.due("one day: the land is lost", x.play(1, 0), 3);
        CHECK.due("by this place", x.play(1, 1), 17);
        CHECK.due("two days: it is answered", x.play(2, 0), -3);
        CHECK.due("so any place does, the first", x.play(2, 1), 1);
        x.set(0, 17);
        CHECK.due("blue answers", x.play(1, 0), 3);
        CHECK.due("there", x.play(1, 1), 12);
        x = Check.with("field 3 3;kind s reach 1;stone s red at 1 0;stone s red at 0 1;stone s red at 2 1;stone s blue at 2 2;land blue at 0 0;");
        CHECK.due("one day", x.play(1, 0), 0);
        CHECK.due("its place", x.play(1, 1), 7);
        CHECK.due("three days", x.play(3, 0), -1);
        CHECK.due("their place", x.play(3, 1), 0);
        x = Check.with("field 3 3;kind s reach 1;stone s red at 0 0;stone s red at 1 0;stone s red at 2 0;stone s red at 0 1;stone s red at 1 1;"
            + "stone s red at 2 1;stone s red at 0 2;stone s red at 1 2;stone s red at 2 2;land blue at 0 0;");
        CHECK.due("a full field", x.play(3, 0), -1);
        CHECK.due("one passes", x.play(3, 1), -1);
        // A fork can't be answered whole.
        x = Check.with(FORKED);
        CHECK.due("two days after a fork", x.play(2, 0), 1);
        CHECK.due("the fork is best", x.play(2, 1), 7);
        CHECK.due("nothing was set", x.has(5), 6);
    }

    private static void refusedPlays() {
        BorderStones x = Check.with(NEARLY);
        CHECK.due("play(0, 0)", x.play(0, 0), NOTHING);
        CHECK.due("play(4, 0)", x.play(4, 0), NOTHING);
        CHECK.due("play(3, 0) on 25 places", x.play(3, 0), NOTHING);
        CHECK.due("play(1, 2)", x.play(1, 2), NOTHING);
        CHECK.due("play(1, -1)", x.play(1, -1), NOTHING);
        CHECK.due("thumb(-1, 1, 0)", x.thumb(-1, 1, 0), NOTHING);
        CHECK.due("thumb(3, 1, 0)", x.thumb(3, 1, 0), NOTHING);
        CHECK.due("thumb(0, 0, 0)", x.thumb(0, 0, 0), NOTHING);
        CHECK.due("thumb(0, 3, 0)", x.thumb(0, 3, 0), NOTHING);
        CHECK.due("thumb(0, 1, 2)", x.thumb(0, 1, 2), NOTHING);
        CHECK.due("thumb(0, 1, -1)", x.thumb(0, 1, -1), NOTHING);
        x = Check.with("field 3 3;");
        CHECK.due("play without a kind", x.play(1, 0), NOTHING);
        CHECK.due("thumb without a kind", x.thumb(0, 1, 0), NOTHING);
        x = Check.with("field 5 4;kind s reach 1;");
        CHECK.due("play(3, 0) on 20 places", x.play(3, 0), 0);
        x = Check.with("field 7 3;kind s reach 1;");
        CHECK.due("play(3, 0) on 21 places", x.play(3, 0), NOTHING);
        CHECK.due("play(2, 0) on 21 places", x.play(2, 0), 0);
    }

    private static void thumbs() {
        BorderStones x = Check.with(NEARLY);
        int[][] want = {{-1, 6}, {17, 0}, {1, 6}};
        for (int rule = 0; rule < 3; rule++) {
            CHECK.due("thumb(" + rule + ", 1, 0)", x.thumb(rule, 1, 0), want[rule][0]);
            CHECK.due("thumb(" + rule + ", 1, 1)", x.thumb(rule, 1, 1), want[rule][1]);
        }
        CHECK.due("thumb(1, 2, 1)", x.thumb(1, 2, 1), 0);
        x.set(0, 17);
        CHECK.due("the answer", x.thumb(0, 1, 0), 12);
        CHECK.due("loses nothing", x.thumb(0, 2, 1), 0);
        CHECK.due("no threat: blue passes", x.thumb(1, 1, 0), -1);
        CHECK.due("and loses the land", x.thumb(1, 1, 1), 6);
        // KIND 0 grows the edge most where it makes a long line.
        x = Check.with("field 7 3;kind s reach 4;stone s red at 0 0;");
        CHECK.due("the longest line", x.thumb(2, 1, 0), 4);
        x = Check.with("field 3 3;kind s reach 1;stone s red at 0 0;stone s red at 1 0;stone s red at 2 0;stone s red at 0 1;stone s red at 1 1;"
            + "stone s red at 2 1;stone s red at 0 2;stone s red at 1 2;stone s blue at 2 2;");
        CHECK.due("a full field: it passes", x.thumb(2, 1, 0), -1);
        CHECK.due("and loses nothing", x.thumb(2, 3, 1), 0);
    }

    private static void thumbByPlaces() {
        // The first answer comes first, and the most places OWED win.
        BorderStones x = Check.with(FORKED);
        CHECK.due("most places", x.thumb(1, 1, 0), 7);
        x.set(0, 7);
        CHECK.due("the first of two parts", x.thumb(0, 1, 0), 6);
        CHECK.due("loses nothing", x.thumb(0, 1, 1), 0);
    }
}
