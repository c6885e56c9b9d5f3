/** Term III and promises 13 to 22, sentence by sentence: what a stone does, plays, truces, rows, what rain hides. */
public final class EdgeAskTest {
    private static final Check CHECK = new Check();
    private static final int NOTHING = BorderStones.NOTHING;
    private static final int LEAST = Integer.MIN_VALUE;
    private static final int MOST = Integer.MAX_VALUE;
    /** Red has three of the four stones around the middle, place 12. */
    private static final String NEARLY = "field 5 5;kind s reach 1;kind c reach 1 child;stone s red at 2 1;stone s red at 1 2;stone s red at 3 2;"
        + "stone s blue at 0 0;land blue at 2 2;worth edge + 1 when all;";
    /** The middle row, places 8 to 12, is shut in by red. */
    private static final String ROW = "field 7 3;kind n reach 1;kind s reach 6;stone s red at 0 0;stone s red at 6 0;stone s red at 0 2;"
        + "stone s red at 6 2;";

    public static void main(String[] args) {
        threatRefused();
        threatTells();
        threatMarks();
        answerBounds();
        answersNone();
        forkBounds();
        lineBounds();
        playDepths();
        playDays();
        playTies();
        playValues();
        thumbRefused();
        thumbPasses();
        thumbChoices();
        thumbLosses();
        truceBounds();
        truceOrder();
        rowsBounds();
        rowsLand();
        hiddenRefused();
        hiddenBounds();
        hiddenOdds();
        lookBounds();
        askingDoesNothing();
        CHECK.close("EdgeAskTest");
    }

    // ---- threat, answer, fork, line

    private static void threatRefused() {
        CHECK.says("were a STONE of a KIND set on a place by the side of the DAY. NONE when it can't be, or for others.");
        BorderStones x = Check.with(NEARLY);
        for (int what = 0; what <= 2; what++) {
            CHECK.due("no field", new BorderStones().threat(0, 0, what), -1);
            CHECK.due("no KIND", Check.with("field 3 3;").threat(0, 0, what), -1);
            CHECK.due("a pass", x.threat(0, -1, what), -1);
            CHECK.due("a taken place", x.threat(0, 7, what), -1);
            CHECK.due("the other side's", x.threat(0, 0, what), -1);
            for (int wild : new int[] {-1, 2, 5, LEAST, MOST}) {
                CHECK.due("threat(" + wild + ", 17, " + what + ")", x.threat(wild, 17, what), -1);
            }
            for (int wild : new int[] {-2, 25, 26, 64 + 17, LEAST, MOST}) {
                CHECK.due("threat(0, " + wild + ", " + what + ")", x.threat(0, wild, what), -1);
            }
        }
        for (int wild : new int[] {-1, 3, LEAST, MOST}) {
            CHECK.due("threat(0, 17, " + wild + ")", x.threat(0, 17, wild), -1);
        }
        CHECK.due("the last place", x.threat(1, 24, 0), 0);
    }

    private static void threatTells() {
        CHECK.says("How many places would be OWED by the other side (what 0), in how many parts (1), how many of the OWED parts it would answer (2)");
        BorderStones x = Check.with(ROW);
        int[][] want = {{8, 4, 1}, {9, 4, 2}, {10, 4, 2}, {11, 4, 2}, {12, 4, 1}, {7, 0, 0}, {1, 0, 0}};
        for (int[] one : want) {
            CHECK.due("places by " + one[0], x.threat(0, one[0], 0), one[1]);
            CHECK.due("parts by " + one[0], x.threat(0, one[0], 1), one[2]);
            CHECK.due("answered by " + one[0], x.threat(0, one[0], 2), 0);
        }
        x.set(0, 10);
        for (int place : new int[] {8, 9, 11, 12}) {
            CHECK.due("blue answers one part by " + place, x.threat(0, place, 2), 1);
        }
        for (int place : new int[] {1, 7, 13, 19}) {
            CHECK.due("blue answers none by " + place, x.threat(0, place, 2), 0);
        }
        CHECK.due("blue threatens nothing", x.threat(0, 8, 0) + x.threat(0, 8, 1), 0);
    }

    /** The upper row of the last corner is barred by a STONE: its mark, and those of the ends, tell what would be. */
    private static void threatMarks() {
        CHECK.says("(a high one at one end: whatever stands between)");
        String kinds = "field 5 3;kind s reach 4;kind h reach 4 high;kind u reach 4 sunk;kind c reach 4 child;stone s red at 0 2;stone s red at 4 2;";
        String[][] told = {{"s", "s", "0300"}, {"s", "u", "3330"}, {"h", "s", "3330"}, {"c", "s", "0000"}, {"c", "u", "0000"}, {"u", "c", "0300"},
            {"u", "h", "0300"}, {"h", "h", "3330"}};
        for (String[] one : told) {
            BorderStones x = Check.with(kinds + "stone " + one[0] + " red at 4 0;stone " + one[1] + " blue at 2 0;");
            for (int kind = 0; kind < 4; kind++) {
                int want = one[2].charAt(kind) - '0';
                CHECK.due("KIND " + kind + " to " + one[0] + " over " + one[1], x.threat(kind, 0, 0), want);
                CHECK.due("and set", x.set(kind, 0), want);
                x.undo();
            }
        }
    }

    private static void answerBounds() {
        CHECK.says("how many (k NONE; 0 when nothing is), the k-th; NONE when there is none such.");
        CHECK.due("no field", new BorderStones().answer(-1), 0);
        CHECK.due("no field, the first", new BorderStones().answer(0), -1);
        BorderStones x = Check.with(ROW);
        CHECK.due("nothing is OWED", x.answer(-1), 0);
        CHECK.due("so no first", x.answer(0), -1);
        x.set(0, 8);
        CHECK.due("four places", x.answer(-1), 4);
        int[] want = {9, 10, 11, 12};
        for (int k = 0; k < 4; k++) {
            CHECK.due("answer(" + k + ")", x.answer(k), want[k]);
            CHECK.due("it answers", x.threat(0, want[k], 2), x.has(6));
        }
        for (int wild : new int[] {4, 5, 36, -2, LEAST, MOST}) {
            CHECK.due("answer(" + wild + ")", x.answer(wild), -1);
        }
        x.set(0, 10);
        CHECK.due("answered: nothing is", x.answer(-1), 0);
        CHECK.due("none", x.answer(0), -1);
    }

    private static void answersNone() {
        CHECK.says("Places on which a STONE answers all that is OWED");
        BorderStones x = Check.with(ROW);
        x.set(0, 9);
        CHECK.due("two parts", x.has(6), 2);
        CHECK.due("no STONE is in both", x.answer(-1), 0);
        CHECK.due("no first", x.answer(0), -1);
        // the only place of the part has a STONE already
        x = Check.with("field 3 3;kind s reach 1;stone s red at 1 0;stone s red at 0 1;stone s red at 2 1;stone s blue at 1 1;");
        CHECK.due("OWED with a STONE in it", x.set(0, 7), 1);
        CHECK.due("no place is left", x.answer(-1), 0);
        CHECK.due("no first place", x.answer(0), -1);
        x.set(0, 0);
        CHECK.due("so it is lost", x.place(4, 2), 0);
        // of three places one has a STONE
        x = Check.with("field 5 3;kind s reach 4;stone s red at 0 0;stone s red at 4 0;stone s red at 0 2;stone s blue at 2 1;");
        CHECK.due("three places", x.set(0, 14), 3);
        CHECK.due("two are free", x.answer(-1), 2);
        CHECK.due("the first", x.answer(0), 6);
        CHECK.due("the second", x.answer(1), 8);
    }

    private static void forkBounds() {
        CHECK.says("makes two parts or more OWED at once; NONE without, or when there is no such KIND.");
        CHECK.due("no field", new BorderStones().fork(0), -1);
        CHECK.due("no KIND", Check.with("field 3 3;").fork(0), -1);
        CHECK.due("one part is none", Check.with(NEARLY).fork(0), -1);
        BorderStones x = Check.with(ROW);
        for (int wild : new int[] {-1, 2, 5, LEAST, MOST}) {
            CHECK.due("fork(" + wild + ")", x.fork(wild), -1);
        }
        CHECK.due("the first place of three", x.fork(0), 9);
        CHECK.due("a LINE would lie on one part", x.fork(1), 9);
        x.set(0, 9);
        x.set(0, -1);
        CHECK.due("all is red's LAND: none", x.fork(0), -1);
        x.set(0, -1);
        CHECK.due("blue has none", x.fork(0), -1);
        // more than two: both slants and both rows by the last corner
        x = Check.with("field 5 5;kind s reach 4;stone s red at 4 0;stone s red at 0 4;stone s red at 4 4;");
        CHECK.due("four parts", x.threat(0, 0, 1), 4);
        CHECK.due("the corner", x.fork(0), 0);
    }

    private static void lineBounds() {
        CHECK.says("1, 0; NONE when there are no STONES of one side there.");
        CHECK.due("no field", new BorderStones().line(0, 1), -1);
        BorderStones x = Check.with("field 5 5;kind s reach 2;kind c reach 6 child;stone s red at 0 0;stone s red at 2 0;stone s red at 3 0;"
            + "stone s blue at 0 1;stone c red at 4 0;stone s red at 4 4;");
        int[][] want = {{0, 2, 1}, {2, 0, 1}, {2, 3, 1}, {0, 3, 0}, {3, 4, 0}, {4, 3, 0}, {0, 24, 0}, {0, 5, -1}, {5, 0, -1}, {0, 1, -1},
            {1, 0, -1}, {1, 6, -1}, {5, 6, -1}, {0, 25, -1}, {25, 0, -1}, {0, -1, -1}, {-1, 0, -1}, {0, 64, -1}, {66, 0, -1}};
        for (int[] one : want) {
            CHECK.due("line(" + one[0] + ", " + one[1] + ")", x.line(one[0], one[1]), one[2]);
        }
        for (int wild : new int[] {LEAST, MOST}) {
            CHECK.due("line(0, " + wild + ")", x.line(0, wild), -1);
            CHECK.due("line(" + wild + ", 0)", x.line(wild, 0), -1);
        }
        CHECK.due("a STONE that comes", x.line(0, 10), -1);
        x.set(0, 10);
        CHECK.due("barred by blue's", x.line(0, 10), 0);
        CHECK.due("and one that goes", x.undo() ? x.line(0, 10) : 0, -1);
    }

    // ---- plays and rules of thumb

    private static void playDepths() {
        CHECK.says("PLAY, n DAYS (1 .. 3; 3 on fields of 20 places at most) deep");
        for (int wide = 3; wide <= 7; wide++) {
            for (int high = 3; high <= 7 && wide * high <= 36; high++) {
                BorderStones x = Check.with("field " + wide + " " + high + ";kind s reach 1;land blue at 0 0;");
                CHECK.due("n 1 of " + wide * high, x.play(1, 0), -1);
                CHECK.due("n 2 of " + wide * high, x.play(2, 0), -1);
                CHECK.due("n 3 of " + wide * high, x.play(3, 0), wide * high <= 20 ? -1 : NOTHING);
                CHECK.due("place, n 3 of " + wide * high, x.play(3, 1), wide * high <= 20 ? 0 : NOTHING);
                CHECK.due("thumb, n 3 of " + wide * high, x.thumb(2, 3, 0), wide * high <= 20 ? 0 : NOTHING);
            }
        }
        CHECK.says("NOTHING when n can't be, without a KIND, or when n DAYS can't be any more.");
        BorderStones x = Check.with("field 3 3;kind s reach 1;");
        for (int wild : new int[] {0, -1, 4, 5, LEAST, MOST}) {
            CHECK.due("play(" + wild + ", 0)", x.play(wild, 0), NOTHING);
            CHECK.due("play(" + wild + ", 1)", x.play(wild, 1), NOTHING);
        }
        BorderStones bare = Check.with("field 3 3;");
        for (int n = 1; n <= 3; n++) {
            CHECK.due("without a KIND", bare.play(n, 0), NOTHING);
            CHECK.due("without a KIND, its place", bare.play(n, 1), NOTHING);
            CHECK.due("without a field", new BorderStones().play(n, 0), NOTHING);
        }
    }

    private static void playDays() {
        CHECK.says("or when n DAYS can't be any more.");
        BorderStones x = Check.with("field 3 3;kind s reach 1;");
        x.year(100);
        x.year(96);
        for (int day = 196; day <= 200; day++) {
            CHECK.due("DAY", x.has(4), day);
            for (int n = 1; n <= 3; n++) {
                boolean can = day + n <= 200;
                CHECK.due("play(" + n + ", 0) on DAY " + day, x.play(n, 0) != NOTHING, can);
                CHECK.due("play(" + n + ", 1) on DAY " + day, x.play(n, 1) != NOTHING, can);
                CHECK.due("thumb(2, " + n + ", 0) on DAY " + day, x.thumb(2, n, 0) != NOTHING, can);
                CHECK.due("thumb(2, " + n + ", 1) on DAY " + day, x.thumb(2, n, 1) != NOTHING, can);
            }
            x.set(0, -1);
        }
    }

    private static void playTies() {
        CHECK.says("of like ones the first place by number, passing last");
        StringBuilder text = new StringBuilder("field 3 3;kind s reach 1 child;");
        for (int stones = 0; stones <= 9; stones++) {
            BorderStones x = Check.with(text.toString());
            for (int n = 1; n <= 3; n++) {
                CHECK.due("a like VALUE with " + stones, x.play(n, 0), 0);
                CHECK.due("the first of like ones with " + stones, x.play(n, 1), stones < 9 ? stones : -1);
            }
            text.append("stone s red at ").append(stones % 3).append(' ').append(stones / 3).append(';');
        }
    }

    private static void playValues() {
        CHECK.says("VALUE: at the end, all that is OWED then being lost, what the side of the first DAY has less what the other one has");
        BorderStones x = Check.with(NEARLY);
        CHECK.due("OWED at the end of one DAY", x.play(1, 0), 3);
        CHECK.due("by this place", x.play(1, 1), 17);
        CHECK.due("two DAYS: blue answers", x.play(2, 0), -3);
        CHECK.due("so the first place", x.play(2, 1), 1);
        x.set(0, 17);
        CHECK.due("blue's VALUE if it answers", x.play(1, 0), 3);
        CHECK.due("it does", x.play(1, 1), 12);
        CHECK.due("its VALUE two DAYS deep", x.play(2, 0), 3);
        x.set(0, -1);
        CHECK.due("lost", x.play(1, 0), 3);
        // what is OWED at the end is the next side's: red's own threat stands against blue
        x = Check.with(ROW);
        CHECK.due("four places", x.play(1, 0), 4);
        CHECK.due("the first that makes four", x.play(1, 1), 8);
        CHECK.due("two DAYS: two of four", x.play(2, 0), 2);
        CHECK.due("by the fork", x.play(2, 1), 10);
    }

    private static void thumbRefused() {
        CHECK.says("what it LOSES, n deep (what 1). NOTHING likewise, or for others.");
        BorderStones x = Check.with(NEARLY);
        for (int what = 0; what <= 1; what++) {
            for (int rule : new int[] {-1, 3, LEAST, MOST}) {
                CHECK.due("thumb(" + rule + ", 1, " + what + ")", x.thumb(rule, 1, what), NOTHING);
            }
            for (int n : new int[] {0, -1, 3, 4, LEAST, MOST}) {
                CHECK.due("thumb(0, " + n + ", " + what + ")", x.thumb(0, n, what), NOTHING);
            }
            for (int rule = 0; rule <= 2; rule++) {
                CHECK.due("without a KIND", Check.with("field 3 3;").thumb(rule, 1, what), NOTHING);
                CHECK.due("without a field", new BorderStones().thumb(rule, 1, what), NOTHING);
            }
        }
        for (int what : new int[] {-1, 2, 3, LEAST, MOST}) {
            CHECK.due("thumb(0, 1, " + what + ")", x.thumb(0, 1, what), NOTHING);
        }
    }

    private static void thumbPasses() {
        CHECK.says("(none: passing, if nothing is more than 0; of like ones the first)");
        BorderStones x = Check.with("field 3 3;kind s reach 2;stone s red at 0 0;stone s red at 2 0;stone s red at 0 2;stone s red at 2 2;");
        CHECK.due("nothing is OWED", x.thumb(0, 1, 0), -1);
        CHECK.due("nothing can be shut in", x.thumb(1, 1, 0), -1);
        CHECK.due("all is on the EDGE", x.side(0, 2), 9);
        CHECK.due("so it can't grow", x.thumb(2, 1, 0), -1);
        for (int rule = 0; rule <= 2; rule++) {
            CHECK.due("passing loses nothing here", x.thumb(rule, 3, 1), 0);
        }
        x.set(0, -1);
        CHECK.due("blue's EDGE grows", x.thumb(2, 1, 0), 1);
        // OWED, but no free place in it
        x = Check.with("field 3 3;kind s reach 1;stone s red at 1 0;stone s red at 0 1;stone s red at 2 1;stone s blue at 1 1;");
        x.set(0, 7);
        CHECK.due("no place answers", x.thumb(0, 1, 0), -1);
        // a full field
        StringBuilder full = new StringBuilder("field 3 3;kind s reach 1;");
        for (int place = 0; place < 9; place++) {
            full.append("stone s red at ").append(place % 3).append(' ').append(place / 3).append(';');
        }
        for (int rule = 0; rule <= 2; rule++) {
            CHECK.due("a full field", Check.with(full.toString()).thumb(rule, 1, 0), -1);
        }
    }

    private static void thumbChoices() {
        CHECK.says("0 the first place (KIND 0) that answers most of what is OWED");
        BorderStones x = Check.with(ROW);
        x.set(0, 9);
        CHECK.due("the first place of two parts", x.thumb(0, 1, 0), 8);
        x.undo();
        x.set(0, 8);
        CHECK.due("the first place of one part", x.thumb(0, 1, 0), 9);
        CHECK.says("1 that by which most places come to be OWED by the other side");
        x = Check.with(ROW);
        CHECK.due("the first by which there are four", x.thumb(1, 1, 0), 8);
        x = Check.with(NEARLY);
        CHECK.due("the only one", x.thumb(1, 1, 0), 17);
        CHECK.says("2 that by which THE EDGE grows most");
        for (int reach = 1; reach <= 6; reach++) {
            x = Check.with("field 7 3;kind s reach " + reach + ";stone s red at 0 0;");
            CHECK.due("the end of the longest LINE of reach " + reach, x.thumb(2, 1, 0), reach);
            CHECK.due("it is KIND 0 that is set", x.set(0, reach) + x.side(0, 2), reach + 1);
        }
    }

    private static void thumbLosses() {
        CHECK.says("it LOSES what PLAY is worth more than it, n deep (its DAY, and n - 1 more by PLAY)");
        BorderStones x = Check.with(NEARLY);
        int[][] want = {{0, 1, 6}, {0, 2, 0}, {1, 1, 0}, {1, 2, 0}, {2, 1, 6}, {2, 2, 0}};
        for (int[] one : want) {
            CHECK.due("thumb(" + one[0] + ", " + one[1] + ", 1)", x.thumb(one[0], one[1], 1), one[2]);
        }
        x.set(0, 17);
        CHECK.due("the answer loses nothing", x.thumb(0, 1, 1), 0);
        CHECK.due("passing loses the land, twice its WORTH", x.thumb(1, 1, 1), 6);
        CHECK.due("two deep too", x.thumb(1, 2, 1), 6);
        // it is KIND 0 that is set, not another one
        x = Check.with("field 5 3;kind s reach 4;kind n reach 1;stone s red at 4 0;stone s red at 0 2;stone s red at 4 2;");
        CHECK.due("the corner", x.thumb(1, 1, 0), 0);
        CHECK.due("loses nothing", x.thumb(1, 1, 1), 0);
        x = Check.with("field 5 3;kind n reach 1;kind s reach 4;stone s red at 4 0;stone s red at 0 2;stone s red at 4 2;");
        CHECK.due("no corner", x.thumb(1, 1, 0), -1);
        CHECK.due("PLAY has none either", x.play(1, 0), 0);
        // rule 1 takes the first place of four; two deep the fork is worth two more
        x = Check.with(ROW);
        CHECK.due("one DAY", x.thumb(1, 1, 1), 0);
        CHECK.due("two DAYS", x.thumb(1, 2, 1), 2);
    }

    // ---- truces and rows of days

    private static void truceBounds() {
        CHECK.says("its side, KIND, place. NONE without a field, or when none does.");
        BorderStones none = new BorderStones();
        for (int k = -2; k <= 3; k++) {
            CHECK.due("no field, truce(" + k + ")", none.truce(k), -1);
        }
        for (String text : new String[] {"field 3 3;", "field 3 3;kind s reach 1;", "field 7 5;kind s reach 6 child;"}) {
            BorderStones x = Check.with(text);
            CHECK.due("a TRUCE", x.truce(-1), 1);
            for (int k : new int[] {0, 1, 2, 3, -2, LEAST, MOST}) {
                CHECK.due("none breaks it, truce(" + k + ")", x.truce(k), -1);
            }
        }
        BorderStones x = Check.with(NEARLY);
        int[] want = {0, 0, 0, 17};
        for (int k = -1; k <= 2; k++) {
            CHECK.due("truce(" + k + ")", x.truce(k), want[k + 1]);
        }
        for (int k : new int[] {3, 4, -2, LEAST, MOST}) {
            CHECK.due("truce(" + k + ")", x.truce(k), -1);
        }
        CHECK.due("its own LAND breaks nothing", Check.with(NEARLY + "land red at 2 2;").truce(-1), 1);
        CHECK.says("A TRUCE: no STONE of any KIND on any place, by either side, makes a part OWED to it");
        for (String side : new String[] {"red", "blue"}) {
            x = Check.with("field 3 3;kind s reach 1;stone s " + side + " at 1 0;stone s " + side + " at 0 1;stone s " + side + " at 2 1;");
            for (int day = 0; day < 3; day++) {
                CHECK.due("who breaks it on DAY " + day, x.truce(0), side.equals("red") ? 0 : 1);
                CHECK.due("where", x.truce(2), 7);
                x.set(0, -1);
            }
            // DAY 3 is blue's
            if (side.equals("red")) {
                x.set(0, -1);
            }
            x.set(0, 7);
            CHECK.due("no place is left that breaks it", x.truce(-1), 1);
        }
    }

    private static void truceOrder() {
        CHECK.says("(red ahead of blue, KINDS, places)");
        // kind n shuts in 19 by place 26 alone; kind s shuts in 8 by place 0 too
        String red = "field 7 5;kind n reach 1;kind s reach 4;stone n red at 5 1;stone n red at 4 2;stone n red at 6 2;"
            + "stone s red at 2 0;stone s red at 0 2;stone s red at 2 2;stone n blue at 1 1;";
        BorderStones x = Check.with(red);
        CHECK.due("kind s would by place 0", x.threat(1, 0, 1), 1);
        truce(x, 0, 0, 26);
        x.set(0, -1);
        truce(x, 0, 0, 26);
        String blue = red.replace("red", "grey").replace("blue", "red").replace("grey", "blue");
        x = Check.with(blue);
        truce(x, 1, 0, 26);
        // a child of red's at the last place comes ahead of blue's
        x = Check.with("field 7 3;kind s reach 1;kind c reach 1 child;stone s blue at 1 0;stone s blue at 0 1;stone s blue at 2 1;"
            + "stone s red at 5 0;stone s red at 4 1;stone s red at 6 1;");
        truce(x, 0, 0, 19);
        // of its places the first
        truce(Check.with(ROW), 0, 0, 8);
        // the first place of all, by a KIND that is not the first
        truce(Check.with("field 5 3;kind n reach 1;kind s reach 4;stone s blue at 4 0;stone s blue at 0 2;stone s blue at 4 2;"), 1, 1, 0);
        // the last KIND and the last place; red bars the slant by which kind d would shut in less
        truce(Check.with("field 7 3;kind a reach 1;kind b reach 1;kind c reach 1;kind d reach 5;kind e reach 6;stone e blue at 0 0;"
            + "stone e blue at 6 0;stone e blue at 0 2;stone a red at 5 1;"), 1, 4, 20);
        // a KIND of an earlier border breaks nothing
        x = Check.with("field 5 3;kind a reach 4;kind h reach 4 high;");
        Check.feed(x, "field 5 3;kind a reach 4;stone a red at 4 0;stone a red at 0 2;stone a red at 4 2;stone a blue at 2 0;");
        x.border();
        CHECK.due("a TRUCE without the high one", x.truce(-1), 1);
    }

    private static void truce(BorderStones x, int side, int kind, int place) {
        CHECK.due("no TRUCE", x.truce(-1), 0);
        CHECK.due("side", x.truce(0), side);
        CHECK.due("KIND", x.truce(1), kind);
        CHECK.due("place", x.truce(2), place);
    }

    private static void rowsBounds() {
        CHECK.says("orders of the STONES on the field (1 .. 8, as many red as blue, or one red more)");
        int[] orders = {1, 1, 2, 6, 24, 120};
        for (int red = 0; red <= 5; red++) {
            for (int blue = 0; blue <= 5; blue++) {
                StringBuilder text = new StringBuilder("field 7 5;kind s reach 1;");
                for (int i = 0; i < red; i++) {
                    text.append("stone s red at ").append(i).append(" 0;");
                }
                for (int i = 0; i < blue; i++) {
                    text.append("stone s blue at ").append(i).append(" 4;");
                }
                boolean can = red + blue >= 1 && red + blue <= 8 && (red == blue || red == blue + 1);
                CHECK.due(red + " red, " + blue + " blue", Check.with(text.toString()).rows(), can ? orders[red] * orders[blue] : -1);
            }
        }
        CHECK.says("ROWS OF DAYS: how many; NONE when there are not so many STONES, or no field.");
        CHECK.due("no field", new BorderStones().rows(), -1);
        CHECK.due("no STONES", Check.with("field 3 3;").rows(), -1);
        BorderStones x = Check.with("field 7 5;kind s reach 1;");
        int[] places = {0, 28, 1, 29, 2, 30, 3, 31, 4};
        int[] want = {1, 1, 2, 4, 12, 36, 144, 576, -1};
        for (int i = 0; i < 9; i++) {
            x.set(0, places[i]);
            CHECK.due("rows of " + (i + 1), x.rows(), want[i]);
        }
        x.undo();
        CHECK.due("of eight again", x.rows(), 576);
    }

    private static void rowsLand() {
        CHECK.says("how many end with LAND as it is now");
        String ring = "field 4 3;kind s reach 1;stone s red at 1 0;stone s red at 0 1;stone s red at 2 1;stone s red at 1 2;"
            + "stone s blue at 3 0;stone s blue at 3 1;stone s blue at 3 2;";
        rows("OWED on the last DAY is not lost", ring, 144);
        rows("nor red's", ring + "land red at 1 1;", 0);
        rows("nor blue's", ring + "land blue at 1 1;", 0);
        rows("LAND elsewhere", ring + "land red at 3 0;", 0);
        rows("a DAY later", ring + "stone s blue at 0 0;land red at 1 1;", 576);
        rows("then never nobody's", ring + "stone s blue at 0 0;", 0);
        // red's 0, 4, 20 shut in 6, 7, 11, unless 12 comes ahead of the last of them: then it is 7 and 11 alone
        String three = "field 5 5;kind s reach 4;stone s red at 0 0;stone s red at 4 0;stone s red at 2 2;stone s red at 0 4;"
            + "stone s blue at 3 4;stone s blue at 4 4;stone s blue at 2 4;stone s blue at 4 3;";
        rows("12 is the last", three + "land red at 1 1;land red at 2 1;land red at 1 2;", 144);
        rows("12 is not the last", three + "land red at 2 1;land red at 1 2;", 432);
        rows("never one alone", three + "land red at 2 1;", 0);
        rows("never blue's", three + "land blue at 2 1;land blue at 1 2;", 0);
        rows("never none", three, 0);
        CHECK.says("red first, turn about, each as it is, from a field without STONES and LAND (DAY 0 on)");
        String corners = "field 5 4;kind s reach 4;kind n reach 1;stone s red at 0 0;stone s red at 4 0;stone s red at 0 2;"
            + "stone n blue at 0 3;stone n blue at 1 3;stone n blue at 2 3;stone n blue at 3 3;";
        String middle = "land red at 1 1;land red at 2 1;land red at 3 1;";
        rows("a corner that reaches far", corners + "stone s red at 4 2;" + middle, 576);
        rows("so it is never nobody's", corners + "stone s red at 4 2;", 0);
        rows("a corner that does not", corners + "stone n red at 4 2;" + middle, 0);
        rows("so it is nobody's", corners + "stone n red at 4 2;", 576);
    }

    /** The rows of a border, asked ahead of other calls and behind them. */
    private static void rows(String what, String text, int want) {
        BorderStones x = Check.with(text);
        CHECK.due(what, x.rows(), want);
        x.truce(-1);
        x.play(1, 0);
        CHECK.due(what + ", once more", x.rows(), want);
        CHECK.due(what + ", then all is as it was", Check.all(x), Check.all(Check.with(text)));
    }

    // ---- what rain hides

    /** hidden and look of one that can't be. */
    private static void cannot(BorderStones x, String why, long places, int side, int many, int told) {
        CHECK.due(why + ", ways", x.hidden(places, side, many, told, -1), -1);
        CHECK.due(why + ", odds", x.hidden(places, side, many, told, 0), -1);
        CHECK.due(why + ", look", x.look(places, side, many, told), -1);
    }

    private static void hiddenRefused() {
        CHECK.says("NONE when something can't be; ODDS NONE without ways.");
        CHECK.says("`int look(long places, int side, int many, int told)`: WHERE TO LOOK; NONE when something can't be, or without ways.");
        BorderStones x = Check.with(NEARLY);
        long one = 1L << 17;
        CHECK.due("what can be", x.hidden(one, 0, 1, 12, -1), 1);
        for (int wild : new int[] {-1, 2, LEAST, MOST}) {
            cannot(x, "side " + wild, one, wild, 1, 12);
        }
        for (int wild : new int[] {0, -1, 4, 5, LEAST, MOST}) {
            cannot(x, "STONES " + wild, one | 15L << 20, 0, wild, 12);
        }
        for (int wild : new int[] {-1, -2, 25, 26, 64 + 12, LEAST, MOST}) {
            cannot(x, "told " + wild, one, 0, 1, wild);
        }
        for (int bit = 25; bit < 64; bit++) {
            cannot(x, "place " + bit, one | 1L << bit, 0, 1, 12);
        }
        for (int k : new int[] {-2, 25, 26, 64 + 17, LEAST, MOST}) {
            CHECK.due("odds of " + k, x.hidden(one, 0, 1, 12, k), -1);
        }
        cannot(new BorderStones(), "no field", 0, 0, 1, 0);
        cannot(Check.with("field 3 3;"), "no KIND", 1, 0, 1, 4);
        CHECK.due("no ways", x.hidden(1L << 24, 0, 1, 12, -1), 0);
        CHECK.due("no ODDS then", x.hidden(1L << 24, 0, 1, 12, 24), -1);
        CHECK.due("nor of another place", x.hidden(1L << 24, 0, 1, 12, 3), -1);
        CHECK.due("nor where to look", x.look(1L << 24, 0, 1, 12), -1);
    }

    private static void hiddenBounds() {
        CHECK.says("under places (bits, 36 at most) so many STONES (1 .. 3) of a side, of 12 free places at most");
        // the middle is shut in already: every way counts, 12 choose many
        BorderStones x = Check.with(NEARLY + "stone s red at 2 3;");
        long twelve = 31L << 20 | 3L << 18 | 31L << 1;
        CHECK.due("bits", Long.bitCount(twelve), 12);
        CHECK.due("one of twelve", x.hidden(twelve, 0, 1, 12, -1), 12);
        CHECK.due("two of twelve", x.hidden(twelve, 0, 2, 12, -1), 66);
        CHECK.due("three of twelve", x.hidden(twelve, 0, 3, 12, -1), 220);
        CHECK.due("and places with a STONE", x.hidden(twelve | 1L << 7 | 1L << 11 | 1L, 0, 3, 12, -1), 220);
        for (int many = 1; many <= 3; many++) {
            cannot(x, "thirteen free places", twelve | 1L << 6, 0, many, 12);
            CHECK.due("no places", x.hidden(0, 0, many, 12, -1), 0);
            CHECK.due("no free places", x.hidden(1L << 7 | 1L, 0, many, 12, -1), 0);
        }
        CHECK.due("one free place, two STONES", x.hidden(1L << 24, 0, 2, 12, -1), 0);
        CHECK.due("two free places, three STONES", x.hidden(3L << 23, 0, 3, 12, -1), 0);
        CHECK.due("three free places, three STONES", x.hidden(7L << 22, 0, 3, 12, -1), 1);
        BorderStones y = Check.with("field 6 6;kind s reach 1;stone s red at 4 3;stone s red at 3 4;stone s red at 4 5;");
        CHECK.due("the last place's bit", y.hidden(1L << 35 | 1L << 29, 0, 1, 28, -1), 1);
        CHECK.due("its ODDS", y.hidden(1L << 35 | 1L << 29, 0, 1, 28, 35), 0);
        CHECK.due("the other's", y.hidden(1L << 35 | 1L << 29, 0, 1, 28, 29), 1000);
        cannot(y, "a bit behind the last", 1L << 36 | 1L << 29, 0, 1, 28);
        cannot(y, "the highest bit", 1L << 63 | 1L << 29, 0, 1, 28);
    }

    private static void hiddenOdds() {
        CHECK.says("floor(1000 times the ways in which there is one / all ways)");
        BorderStones x = Check.with(NEARLY + "stone s red at 2 3;");
        for (int free = 1; free <= 12; free++) {
            long bits = 31L << 20 | 3L << 18 | 31L << 1;
            for (int i = 12; i > free; i--) {
                bits &= bits - 1;
            }
            int highest = 63 - Long.numberOfLeadingZeros(bits);
            CHECK.due("one of " + free, x.hidden(bits, 0, 1, 12, highest), 1000 / free);
            CHECK.due("two of " + free, x.hidden(bits, 0, 2, 12, highest), free < 2 ? -1 : 2000 / free);
        }
        CHECK.says("(0 of one that is not so hidden)");
        long bits = 7L << 20 | 1L << 7;
        CHECK.due("not hidden", x.hidden(bits, 0, 1, 12, 24), 0);
        CHECK.due("hidden, but with a STONE", x.hidden(bits, 0, 1, 12, 7), 0);
        CHECK.due("hidden", x.hidden(bits, 0, 1, 12, 21), 333);
        // a side's own parts: the same STONES of blue shut nothing in
        CHECK.due("blue's", x.hidden(bits, 1, 1, 12, -1), 0);
        // a STONE upon the told place: it is on the EDGE
        CHECK.due("the told place itself", x.hidden(1L << 12 | 1L << 24, 0, 1, 12, 12), 0);
        CHECK.due("so there is one way", x.hidden(1L << 12 | 1L << 24, 0, 1, 12, -1), 1);
    }

    private static void lookBounds() {
        CHECK.says("the place with the greatest ODDS, the first of like ones");
        BorderStones x = Check.with("field 5 5;kind s reach 1;stone s red at 2 1;stone s red at 1 2;");
        long both = 1L << 13 | 1L << 17;
        CHECK.due("no ways", x.look(both, 0, 1, 12), -1);
        CHECK.due("both are sure", x.look(both, 0, 2, 12), 13);
        CHECK.due("and one that may be", x.look(both | 1L << 3, 0, 3, 12), 3);
        CHECK.due("two that may be", x.look(both | 3L, 0, 3, 12), 13);
        CHECK.due("no places", x.look(0, 0, 1, 12), -1);
        CHECK.says("so many STONES of KIND 0 of a side");
        String corners = "stone s blue at 4 0;stone s blue at 0 2;stone s blue at 4 2;";
        x = Check.with("field 5 3;kind s reach 4;kind n reach 1;" + corners);
        CHECK.due("by the first place", x.hidden(3L, 1, 1, 7, -1), 1);
        CHECK.due("its ODDS", x.hidden(3L, 1, 1, 7, 0), 1000);
        CHECK.due("the other's", x.hidden(3L, 1, 1, 7, 1), 0);
        CHECK.due("look at it", x.look(3L, 1, 1, 7), 0);
        x = Check.with("field 5 3;kind n reach 1;kind s reach 4;" + corners);
        CHECK.due("KIND 0 reaches not so far", x.hidden(3L, 1, 1, 7, -1), 0);
    }

    // ---- asking

    private static void askingDoesNothing() {
        CHECK.says("Nothing is promised beyond the answers and state changes described above");
        BorderStones x = Check.with(ROW + "land blue at 3 1;");
        x.set(0, 9);
        String before = Check.all(x);
        for (int kind = 0; kind < 2; kind++) {
            for (int place = -1; place < 22; place++) {
                for (int what = 0; what < 3; what++) {
                    x.threat(kind, place, what);
                }
            }
            x.fork(kind);
        }
        for (int n = 1; n <= 2; n++) {
            for (int what = 0; what < 2; what++) {
                x.play(n, what);
                x.thumb(0, n, what);
                x.thumb(1, n, what);
                x.thumb(2, n, what);
            }
        }
        for (int k = -1; k < 4; k++) {
            x.truce(k);
            x.answer(k);
            x.hidden(0xFFFL << 7, 1, 3, 10, k);
        }
        x.rows();
        x.look(0xFFFL << 7, 0, 3, 10);
        x.line(0, 6);
        CHECK.due("all is as it was", Check.all(x), before);
        CHECK.due("one DAY to undo", x.has(8), 1);
    }
}
