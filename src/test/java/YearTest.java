/** Promises 23 to 26: the seed, years, images and their octets. */
public final class YearTest {
    private static final Check CHECK = new Check();

    public static void main(String[] args) {
        seeds();
        draws();
        refusedYears();
        undoneYears();
        changes();
        images();
        CHECK.close("YearTest");
    }

    private static void seeds() {
        BorderStones x = new BorderStones();
        CHECK.due("seed(-1)", x.seed(-1), false);
        CHECK.due("seed(least)", x.seed(Integer.MIN_VALUE), false);
        CHECK.due("seed(0)", x.seed(0), true);
        CHECK.due("seed(greatest)", x.seed(Integer.MAX_VALUE), true);
    }

    /** The stones of a year, drawn once more here. */
    private static void drawn(BorderStones x, long seed, int days) {
        int[] owner = new int[36];
        java.util.Arrays.fill(owner, -1);
        int stones = 0;
        for (int day = 0; day < days; day++) {
            seed = (1103515245L * seed + 12345L) % 2147483648L;
            int place = (int) (seed / 64 % 36);
            if (owner[place] < 0) {
                owner[place] = day % 2;
                stones++;
            }
        }
        CHECK.due("year(" + days + ")", x.year(days), stones);
        for (int place = 0; place < 36; place++) {
            CHECK.due("year(" + days + "), place " + place, x.place(place, 0), owner[place]);
        }
        CHECK.due("DAY behind it", x.has(4), days);
    }

    private static void draws() {
        String text = "field 6 6;kind s reach 1;kind t reach 2;";
        drawn(Check.with(text), 1, 30);
        drawn(Check.with(text), 1, 100);
        for (int seed : new int[] {0, 5, 123456789, Integer.MAX_VALUE}) {
            BorderStones x = Check.with(text);
            x.seed(seed);
            CHECK.due("a refused seed changes nothing", x.seed(-5), false);
            drawn(x, seed, 25);
            CHECK.due("all are of KIND 0", x.kind(0, 2) + x.kind(0, 3), x.has(5));
        }
        // Two years are one long one: the seed goes on.
        BorderStones x = Check.with(text);
        BorderStones y = Check.with(text);
        CHECK.due("two years", x.year(7) + x.year(9), y.year(16));
        for (int place = 0; place < 36; place++) {
            CHECK.due("two years, place " + place, x.place(place, 0), y.place(place, 0));
        }
    }

    private static void refusedYears() {
        CHECK.due("no field", new BorderStones().year(1), -1);
        CHECK.due("no kind", Check.with("field 3 3;").year(1), -1);
        BorderStones x = Check.with("field 6 6;kind s reach 1;");
        CHECK.due("year(0)", x.year(0), -1);
        CHECK.due("year(-1)", x.year(-1), -1);
        CHECK.due("year(101)", x.year(101), -1);
        CHECK.due("nothing was done", x.has(4), 0);
        drawn(x, 1, 100);
        x.set(0, -1);
        CHECK.due("beyond DAY 200", x.year(100), -1);
        CHECK.due("nothing was done then", x.has(4), 101);
        CHECK.due("up to DAY 200", x.year(99) >= 0, true);
        CHECK.due("DAY 200", x.has(4), 200);
        CHECK.due("no more", x.year(1), -1);
        CHECK.due("40 days to undo", x.has(8), 40);
    }

    private static void undoneYears() {
        BorderStones x = Check.with("field 6 6;kind s reach 1;");
        BorderStones y = Check.with("field 6 6;kind s reach 1;");
        x.year(20);
        y.year(12);
        for (int i = 0; i < 8; i++) {
            CHECK.due("undo", x.undo(), true);
        }
        CHECK.due("as long an image", x.image(), y.image());
        for (int k = 0; k < 74; k++) {
            CHECK.due("octet " + k, x.octet(k), y.octet(k));
        }
    }

    private static void changes() {
        BorderStones x = Check.with("field 3 3;kind s reach 1;stone s red at 1 0;stone s red at 0 1;stone s red at 2 1;stone s red at 1 2;"
            + "kind b reach 2;land blue at 0 0;");
        x.set(0, -1);
        CHECK.due("a told border changes nothing", x.place(4, 7), 0);
        x.year(30);
        int all = 0;
        for (int place = 0; place < 9; place++) {
            all += x.place(place, 7);
        }
        CHECK.due("no part is new here", all, 0);
        CHECK.due("no place 9", x.place(9, 7), -1);
    }

    private static void images() {
        BorderStones x = new BorderStones();
        CHECK.due("no image yet", x.octet(0), -1);
        CHECK.due("without a field", x.image(), 2);
        CHECK.due("DAY", x.octet(0), 0);
        CHECK.due("check", x.octet(1), 116);
        CHECK.due("behind it", x.octet(2), -1);
        CHECK.due("octet(-1)", x.octet(-1), -1);
        Check.feed(x, "field 3 3;kind s reach 1;kind t reach 1 high;stone t blue at 0 0;stone s red at 1 0;stone s red at 0 1;"
            + "stone s red at 2 1;land red at 0 0;land blue at 2 2;");
        x.border();
        CHECK.due("the latest image stays", x.octet(1), 116);
        CHECK.due("and has no more", x.octet(2), -1);
        x.set(0, 7);
        CHECK.due("bytes", x.image(), 20);
        int[] want = {1, (1 + 2 + 1) * 3 + 1, 3, 0, 3, 0, 3, 0, 3, 2, 0, 0, 0, 0, 1, 0, 0, 0, 0};
        int check = 71;
        for (int k = 0; k < want.length; k++) {
            CHECK.due("octet(" + k + ")", x.octet(k), want[k]);
            check = (5 * check + want[k]) % 239;
        }
        CHECK.due("octet(19)", x.octet(19), check);
        CHECK.due("octet(20)", x.octet(20), -1);
        x.undo();
        CHECK.due("undoing leaves the image", x.octet(0), 1);
        x.image();
        CHECK.due("a new one", x.octet(0), 0);
        x = Check.with("field 6 6;");
        CHECK.due("the longest image", x.image(), 74);
        CHECK.due("its last byte", x.octet(73) >= 0, true);
        CHECK.due("none behind", x.octet(74), -1);
    }
}
