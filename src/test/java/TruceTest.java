/** Promises 19 to 22: truces, rows of days, what rain hides and where to look. */
public final class TruceTest {
    private static final Check CHECK = new Check();
    private static final String NEARLY = "field 5 5;kind c reach 1 child;kind s reach 1;stone s blue at 2 1;"
        + "stone s blue at 1 2;stone s blue at 3 2;stone s red at 0 0;";
    private static final String THREE = "field 3 3;kind s reach 1;stone s red at 1 0;stone s red at 0 1;stone s blue at 2 2;";

    public static void main(String[] args) {
        truces();
        rows();
        rowsWithLand();
        hidden();
        refusedRain();
        looks();
        CHECK.close("TruceTest");
    }

    private static void truce(BorderStones x, int truce, int side, int kind, int place) {
        CHECK.due("truce(-1)", x.truce(-1), truce);
        CHECK.due("truce(0)", x.truce(0), side);
        CHECK.due("truce(1)", x.truce(1), kind);
        CHECK.due("truce(2)", x.truce(2), place);
        CHECK.due("truce(3)", x.truce(3), -1);
        CHECK.due("truce(-2)", x.truce(-2), -1);
    }

    private static void truces() {
        truce(new BorderStones(), -1, -1, -1, -1);
        truce(Check.with("field 3 3;"), 1, -1, -1, -1);
        truce(Check.with("field 3 3;kind s reach 1;"), 1, -1, -1, -1);
        // It is red's day, but blue would break it; a child does it too, and is the first kind.
        BorderStones x = Check.with(NEARLY);
        truce(x, 0, 1, 0, 17);
        x.set(0, -1);
        truce(x, 0, 1, 0, 17);
        CHECK.due("nothing was set", x.has(5), 4);
        x.set(1, 17);
        CHECK.due("OWED", x.has(6), 1);
        truce(x, 1, -1, -1, -1);
        CHECK.due("still OWED", x.has(6), 1);
        // Red comes ahead of blue, whatever their places.
        truce(Check.with("field 7 5;kind s reach 1;stone s blue at 2 1;stone s blue at 1 2;stone s blue at 2 3;"
            + "stone s red at 4 1;stone s red at 5 2;stone s red at 4 3;"), 0, 0, 0, 17);
        truce(Check.with("field 3 3;kind s reach 1;stone s blue at 1 0;stone s blue at 0 1;stone s blue at 2 1;land blue at 1 1;"),
            1, -1, -1, -1);
    }

    private static void rows() {
        CHECK.due("no field", new BorderStones().rows(), -1);
        CHECK.due("no stones", Check.with("field 3 3;kind s reach 1;").rows(), -1);
        CHECK.due("two orders of red", Check.with(THREE).rows(), 2);
        CHECK.due("one red", Check.with("field 3 3;kind s reach 1;stone s red at 1 0;").rows(), 1);
        CHECK.due("one blue", Check.with("field 3 3;kind s reach 1;stone s blue at 1 0;").rows(), -1);
        CHECK.due("two red", Check.with("field 3 3;kind s reach 1;stone s red at 1 0;stone s red at 1 1;").rows(), -1);
        CHECK.due("land that can't be", Check.with(THREE + "land red at 1 1;").rows(), 0);
        StringBuilder eight = new StringBuilder("field 4 3;kind s reach 1;");
        for (int i = 0; i < 4; i++) {
            eight.append("stone s red at ").append(i).append(" 0;stone s blue at ").append(i).append(" 2;");
        }
        CHECK.due("four and four", Check.with(eight.toString()).rows(), 576);
        BorderStones x = Check.with(eight.toString());
        CHECK.due("nine stones", x.set(0, 4) + x.rows(), -1);
    }

    private static void rowsWithLand() {
        // Red shuts in the middle with its fourth stone: blue's fourth stone is elsewhere, so the middle is red's then.
        String told = "field 4 3;kind s reach 1;stone s red at 1 0;stone s red at 0 1;stone s red at 2 1;stone s red at 1 2;"
            + "stone s blue at 3 0;stone s blue at 3 1;stone s blue at 3 2;";
        CHECK.due("OWED at the end, not lost", Check.with(told).rows(), 144);
        CHECK.due("not yet red's", Check.with(told + "land red at 1 1;").rows(), 0);
        told += "stone s blue at 0 0;";
        CHECK.due("lost by the last day", Check.with(told + "land red at 1 1;").rows(), 576);
        CHECK.due("never nobody's", Check.with(told).rows(), 0);
        // A blue stone inside answers only if it is the last one; else the part is shut in around it and lost.
        told = told.replace("blue at 0 0", "blue at 1 1");
        CHECK.due("answered by the last day", Check.with(told).rows(), 144);
        CHECK.due("set ahead of the last day", Check.with(told + "land red at 1 1;").rows(), 432);
        // The day, the seed and what was undone count for nothing.
        BorderStones x = Check.with("field 3 3;kind s reach 1;");
        x.set(0, -1);
        x.set(0, -1);
        x.set(0, 4);
        CHECK.due("one stone on a later day", x.rows(), 1);
    }

    private static void hidden() {
        BorderStones x = Check.with("field 5 5;kind s reach 1;stone s red at 2 1;stone s red at 1 2;stone s blue at 0 0;");
        long bits = 1L << 13 | 1L << 17 | 1L << 4 | 1L << 7;
        CHECK.due("one stone is too few", x.hidden(bits, 0, 1, 12, -1), 0);
        CHECK.due("no odds without ways", x.hidden(bits, 0, 1, 12, 13), -1);
        CHECK.due("two stones", x.hidden(bits, 0, 2, 12, -1), 1);
        CHECK.due("one of them", x.hidden(bits, 0, 2, 12, 13), 1000);
        CHECK.due("the other", x.hidden(bits, 0, 2, 12, 17), 1000);
        CHECK.due("not so", x.hidden(bits, 0, 2, 12, 4), 0);
        CHECK.due("a stone is there already", x.hidden(bits, 0, 2, 12, 7), 0);
        CHECK.due("not hidden", x.hidden(bits, 0, 2, 12, 24), 0);
        CHECK.due("three stones", x.hidden(bits, 0, 3, 12, -1), 1);
        long more = bits | 1L << 3 | 1L << 12;
        // 13 and 17, and one of 3 and 4; a stone on 12 itself is on the edge.
        CHECK.due("three of five", x.hidden(more, 0, 3, 12, -1), 2);
        CHECK.due("half", x.hidden(more, 0, 3, 12, 3), 500);
        CHECK.due("the told place itself", x.hidden(more, 0, 3, 12, 12), 0);
        CHECK.due("blue's", x.hidden(bits, 1, 2, 12, -1), 0);
        CHECK.due("nothing was set", x.has(5), 3);
        CHECK.due("no places", x.hidden(0, 0, 1, 12, -1), 0);
        // Three free places beside the two: floor of a third.
        more = bits | 1L << 3 | 1L << 24;
        CHECK.due("three ways", x.hidden(more, 0, 3, 12, -1), 3);
        CHECK.due("a third", x.hidden(more, 0, 3, 12, 24), 333);
        // It is shut in already: all ways count.
        x.set(0, 13);
        x.set(0, -1);
        x.set(0, 17);
        CHECK.due("all of four", x.hidden(0xFL << 20, 0, 2, 12, -1), 6);
        CHECK.due("half of them", x.hidden(0xFL << 20, 0, 2, 12, 20), 500);
    }

    private static void refusedRain() {
        BorderStones x = Check.with("field 5 5;kind s reach 1;stone s red at 2 1;");
        CHECK.due("side 2", x.hidden(1, 2, 1, 12, -1), -1);
        CHECK.due("side -1", x.hidden(1, -1, 1, 12, -1), -1);
        CHECK.due("no stones", x.hidden(1, 0, 0, 12, -1), -1);
        CHECK.due("four stones", x.hidden(31, 0, 4, 12, -1), -1);
        CHECK.due("told 25", x.hidden(1, 0, 1, 25, -1), -1);
        CHECK.due("told -1", x.hidden(1, 0, 1, -1, -1), -1);
        CHECK.due("k 25", x.hidden(1, 0, 1, 12, 25), -1);
        CHECK.due("k -2", x.hidden(1, 0, 1, 12, -2), -1);
        CHECK.due("a place beyond", x.hidden(1L << 25, 0, 1, 12, -1), -1);
        CHECK.due("a place far beyond", x.hidden(Long.MIN_VALUE, 0, 1, 12, -1), -1);
        CHECK.due("13 free places", x.hidden(0x1FFFL << 12, 0, 1, 12, -1), -1);
        CHECK.due("12 free places and a stone", x.hidden(0xFFFL << 12 | 1L << 7, 0, 1, 12, -1), 0);
        CHECK.due("look there", x.look(0x1FFFL << 12, 0, 1, 12), -1);
        CHECK.due("look, side 2", x.look(1, 2, 1, 12), -1);
        CHECK.due("look, four", x.look(31, 0, 4, 12), -1);
        CHECK.due("look, told 25", x.look(1, 0, 1, 25), -1);
        CHECK.due("without a kind", Check.with("field 5 5;").hidden(1, 0, 1, 12, -1), -1);
        CHECK.due("look without a kind", Check.with("field 5 5;").look(1, 0, 1, 12), -1);
        CHECK.due("without a field", new BorderStones().hidden(0, 0, 1, 0, -1), -1);
        CHECK.due("look without a field", new BorderStones().look(0, 0, 1, 0), -1);
    }

    private static void looks() {
        BorderStones x = Check.with("field 5 5;kind s reach 1;stone s red at 2 1;stone s red at 1 2;stone s blue at 0 0;");
        long bits = 1L << 13 | 1L << 17 | 1L << 4;
        CHECK.due("without ways", x.look(bits, 0, 1, 12), -1);
        CHECK.due("the first of like ones", x.look(bits, 0, 2, 12), 13);
        CHECK.due("not one that is seldom there", x.look(bits | 1L << 3 | 1L << 2, 0, 3, 12), 13);
    }
}
