import java.util.ArrayList;
import java.util.Arrays;
import java.util.List;

/** Promises 23 to 26 and the 512 calls, sentence by sentence: seeds, years by them, images and their bytes. */
public final class EdgeYearTest {
    private static final Check CHECK = new Check();
    private static final int LEAST = Integer.MIN_VALUE;
    private static final int MOST = Integer.MAX_VALUE;
    private static final String WIDE = "field 6 6;kind s reach 1;kind t reach 6;";

    public static void main(String[] args) {
        seedBounds();
        firstSeed();
        draws();
        yearBounds();
        yearRefused();
        yearBeyond();
        yearOnFullField();
        yearAnswers();
        yearUndone();
        imageBounds();
        imageBytes();
        checkByte();
        octetBounds();
        lastCalls();
        CHECK.close("EdgeYearTest");
    }

    private static long next(long seed) {
        return (1103515245L * seed + 12345L) % (1L << 31);
    }

    /** Whose STONES stand where behind a YEAR on a field without any, told once more. */
    private static int[] drawn(long seed, int places, int days) {
        int[] owner = new int[places];
        Arrays.fill(owner, -1);
        for (int day = 0; day < days; day++) {
            seed = next(seed);
            int place = (int) (seed / 64 % places);
            if (owner[place] == -1) {
                owner[place] = day % 2;
            }
        }
        return owner;
    }

    private static int count(int[] owner) {
        return (int) Arrays.stream(owner).filter(side -> side >= 0).count();
    }

    private static void owners(String what, BorderStones x, int[] owner) {
        for (int place = 0; place < owner.length; place++) {
            CHECK.due(what + ", place " + place, x.place(place, 0), owner[place]);
            CHECK.due(what + ", KIND at " + place, x.place(place, 1), owner[place] < 0 ? -1 : 0);
        }
    }

    // ---- seeds

    private static void seedBounds() {
        CHECK.says("The seed of YEARS: true; false when it is below 0.");
        BorderStones x = Check.with(WIDE);
        for (int seed : new int[] {0, 1, 2, 12345, MOST - 1, MOST}) {
            CHECK.due("seed(" + seed + ")", x.seed(seed), true);
            for (int wrong : new int[] {-1, -2, LEAST, LEAST + 1}) {
                CHECK.due("seed(" + wrong + ")", x.seed(wrong), false);
            }
            Check.feed(x, WIDE);
            x.border();
            int[] want = drawn(seed, 36, 20);
            CHECK.due("a YEAR of seed " + seed, x.year(20), count(want));
            owners("seed " + seed, x, want);
        }
        BorderStones none = new BorderStones();
        CHECK.due("ahead of any border", none.seed(5), true);
        Check.feed(none, WIDE);
        none.border();
        none.year(9);
        owners("the seed is kept", none, drawn(5, 36, 9));
    }

    private static void firstSeed() {
        CHECK.says("(It is 1 at first.)");
        BorderStones x = Check.with(WIDE);
        CHECK.due("a YEAR", x.year(30), count(drawn(1, 36, 30)));
        owners("seed 1", x, drawn(1, 36, 30));
    }

    private static void draws() {
        CHECK.says("x (the seed) becomes (1103515245 x + 12345) mod 2 to the 31; floor(x / 64) mod m");
        for (int wide = 3; wide <= 7; wide++) {
            for (int high = 3; high <= 7 && wide * high <= 36; high++) {
                BorderStones x = Check.with("field " + wide + " " + high + ";kind s reach 1;");
                x.seed(MOST - wide);
                int[] want = drawn(MOST - wide, wide * high, 15);
                CHECK.due("STONES on " + wide * high, x.year(15), count(want));
                owners("places " + wide * high, x, want);
            }
        }
        // by single DAYS, the seed goes on from YEAR to YEAR
        BorderStones x = Check.with(WIDE);
        int stones = 0;
        for (int day = 0; day < 40; day++) {
            stones += x.year(1);
            CHECK.due("DAY", x.has(4), day + 1);
        }
        CHECK.due("forty single DAYS", stones, count(drawn(1, 36, 40)));
        owners("forty single DAYS", x, drawn(1, 36, 40));
    }

    // ---- years

    private static void yearBounds() {
        CHECK.says("A YEAR of n DAYS (1 .. 100) goes by: how many STONES were set");
        for (int n : new int[] {1, 2, 50, 99, 100}) {
            BorderStones x = Check.with(WIDE);
            CHECK.due("year(" + n + ")", x.year(n), count(drawn(1, 36, n)));
            CHECK.due("DAY", x.has(4), n);
            CHECK.due("STONES", x.has(5), count(drawn(1, 36, n)));
        }
    }

    private static void yearRefused() {
        CHECK.says("NONE, doing nothing, when it can't be, without KINDS, or beyond DAY 200.");
        CHECK.due("no field", new BorderStones().year(1), -1);
        BorderStones bare = Check.with("field 3 3;");
        CHECK.due("no KINDS", bare.year(1), -1);
        CHECK.due("no DAY went by", bare.has(4), 0);
        BorderStones x = Check.with(WIDE);
        String before = Check.all(x);
        for (int n : new int[] {0, -1, 101, 102, 200, LEAST, MOST, MOST - 1}) {
            CHECK.due("year(" + n + ")", x.year(n), -1);
            CHECK.due("nothing was done", Check.all(x), before);
            CHECK.due("nothing to undo", x.has(8), 0);
        }
        x.year(25);
        owners("no DRAW was taken", x, drawn(1, 36, 25));
        Check.feed(bare, WIDE);
        bare.border();
        bare.year(25);
        owners("no DRAW was taken without KINDS", bare, drawn(1, 36, 25));
    }

    private static void yearBeyond() {
        CHECK.says("or beyond DAY 200.");
        for (int ahead = 98; ahead <= 102; ahead++) {
            BorderStones x = Check.with(WIDE);
            for (int i = 0; i < ahead; i++) {
                x.set(0, -1);
            }
            CHECK.due("a hundred DAYS from DAY " + ahead, x.year(100) >= 0, ahead <= 100);
            CHECK.due("DAY", x.has(4), ahead <= 100 ? ahead + 100 : ahead);
            int left = 200 - x.has(4);
            if (left > 0 && left < 100) {
                CHECK.due("one DAY too many", x.year(left + 1), -1);
                CHECK.due("just up to it", x.year(left) >= 0, true);
                CHECK.due("DAY 200", x.has(4), 200);
            }
            CHECK.due("none then", x.has(4) == 200 ? x.year(1) : -1, -1);
        }
    }

    private static void yearOnFullField() {
        CHECK.says("a STONE of KIND 0 is set there, if there is none (and it can be), else the side passes");
        StringBuilder full = new StringBuilder("field 3 3;kind s reach 1 child;kind t reach 1;");
        for (int place = 0; place < 8; place++) {
            full.append("stone t blue at ").append(place % 3).append(' ').append(place / 3).append(';');
        }
        BorderStones x = Check.with(full.toString());
        int stones = x.year(100);
        CHECK.due("the last place", stones, 1);
        CHECK.due("KIND 0", x.place(8, 1), 0);
        CHECK.due("a full field", x.year(100), 0);
        CHECK.due("all its DAYS went by", x.has(4), 200);
        CHECK.due("STONES", x.has(5), 9);
    }

    /** A YEAR's DAYS are DAYS like others: what is OWED is answered or lost on them, and the sides change. */
    private static void yearAnswers() {
        CHECK.says("A YEAR of n DAYS: on each a DRAW of the places");
        String ring = "field 3 3;kind s reach 1;stone s red at 1 0;stone s red at 0 1;stone s red at 2 1;";
        int answers = 0;
        for (int seed = 0; seed < 60; seed++) {
            BorderStones x = Check.with(ring);
            x.set(0, 7);
            x.seed(seed);
            int place = (int) (next(seed) / 64 % 9);
            CHECK.due("one DAY of seed " + seed, x.year(1), place % 2 == 0 ? 1 : 0);
            CHECK.due("the middle", x.place(4, 2), place == 4 ? -1 : 0);
            CHECK.due("its CHANGES", x.place(4, 7), place == 4 ? 0 : 1);
            CHECK.due("the STONE is blue's", x.place(place, 0), place % 2 == 0 ? 1 : 0);
            answers += place == 4 ? 1 : 0;
        }
        CHECK.due("some answered, some not", answers > 0 && answers < 60, true);
    }

    private static void yearUndone() {
        CHECK.says("all is as it was ahead of it (the last 40 DAYS can be)");
        BorderStones x = Check.with("field 5 4;kind s reach 3;");
        List<String> told = new ArrayList<>();
        for (int day = 0; day < 60; day++) {
            told.add(Check.all(x));
            x.year(1);
        }
        BorderStones y = Check.with("field 5 4;kind s reach 3;");
        y.year(60);
        CHECK.due("one YEAR of sixty DAYS is the same", Check.all(y), Check.all(x));
        CHECK.due("forty DAYS can be undone", y.has(8), 40);
        for (int day = 59; day >= 20; day--) {
            CHECK.due("undo", y.undo(), true);
            CHECK.due("DAY " + day, Check.all(y), told.get(day));
        }
        CHECK.due("no more", y.undo(), false);
    }

    // ---- images

    private static void imageBounds() {
        CHECK.says("`int image()`: AN IMAGE is written: how many bytes.");
        BorderStones none = new BorderStones();
        CHECK.due("without a field", none.image(), 2);
        CHECK.due("DAY", none.octet(0), 0);
        CHECK.due("the last byte", none.octet(1), 116);
        for (int wide = 3; wide <= 7; wide++) {
            for (int high = 3; high <= 7 && wide * high <= 36; high++) {
                BorderStones x = Check.with("field " + wide + " " + high + ";");
                CHECK.due("bytes of " + wide + " " + high, x.image(), 2 * wide * high + 2);
                CHECK.due("the last one", x.octet(2 * wide * high + 1) >= 0, true);
                CHECK.due("none behind", x.octet(2 * wide * high + 2), -1);
            }
        }
    }

    private static void imageBytes() {
        CHECK.says("for each place: 0 without a STONE, else 1 and twice its KIND and its side, all that times 3, and 0 nobody's LAND, 1 red, 2 blue");
        String text = "field 5 6;kind a reach 1;kind b reach 1;kind c reach 1;kind d reach 1;kind e reach 1;";
        StringBuilder told = new StringBuilder(text);
        // all KINDS of both sides, and each of the three LANDS below them
        String[] lands = {"", "red", "blue"};
        for (int i = 0; i < 30; i++) {
            String at = " at " + i % 5 + " " + i / 5 + ";";
            int stone = i / 3;
            if (i % 3 < 2) {
                told.append("stone ").append((char) ('a' + stone / 2)).append(stone % 2 == 0 ? " red" : " blue").append(at);
            }
            if (!lands[(i + i / 3) % 3].isEmpty()) {
                told.append("land ").append(lands[(i + i / 3) % 3]).append(at);
            }
        }
        BorderStones x = Check.with(told.toString());
        CHECK.due("bytes", x.image(), 62);
        CHECK.due("DAY", x.octet(0), 0);
        for (int i = 0; i < 30; i++) {
            int stone = i % 3 < 2 ? 1 + i / 3 : 0;
            CHECK.due("place " + i, x.octet(1 + i), stone * 3 + (i + i / 3) % 3);
            CHECK.due("not OWED " + i, x.octet(31 + i), 0);
        }
        CHECK.says("for each place: whether it is in a part that is OWED now");
        x = Check.with("field 7 3;kind n reach 1;kind s reach 6;stone s red at 0 0;stone s red at 6 0;stone s red at 0 2;stone s red at 6 2;");
        x.set(0, 9);
        CHECK.due("bytes", x.image(), 44);
        CHECK.due("DAY 1", x.octet(0), 1);
        for (int i = 0; i < 21; i++) {
            CHECK.due("OWED " + i, x.octet(22 + i), i == 8 || i >= 10 && i <= 12 ? 1 : 0);
            CHECK.due("as place() tells", x.octet(22 + i), x.place(i, 6));
        }
    }

    private static void checkByte() {
        CHECK.says("last a byte: all ahead from 71 on, c = (5 c + it) mod 239");
        for (int seed = 0; seed < 40; seed++) {
            BorderStones x = Check.with("field 4 4;kind s reach 3;land blue at 1 1;");
            x.seed(seed);
            x.year(1 + seed * 2);
            int bytes = x.image();
            int c = 71;
            for (int k = 0; k < bytes - 1; k++) {
                c = (5 * c + x.octet(k)) % 239;
            }
            CHECK.due("the last byte", x.octet(bytes - 1), c);
        }
    }

    private static void octetBounds() {
        CHECK.says("Byte k of the latest image(); NONE when there is none such.");
        BorderStones x = new BorderStones();
        for (int k : new int[] {-1, 0, 1, LEAST, MOST}) {
            CHECK.due("ahead of any image, octet(" + k + ")", x.octet(k), -1);
        }
        Check.feed(x, "field 6 6;kind s reach 1;");
        x.border();
        CHECK.due("a border is no image", x.octet(0), -1);
        CHECK.due("bytes", x.image(), 74);
        for (int k : new int[] {-1, 74, 75, LEAST, MOST}) {
            CHECK.due("octet(" + k + ")", x.octet(k), -1);
        }
        x.set(0, 35);
        CHECK.due("DAY as it was", x.octet(0), 0);
        CHECK.due("the last place as it was", x.octet(36), 0);
        x.image();
        CHECK.due("DAY now", x.octet(0), 1);
        CHECK.due("the last place now", x.octet(36), 3);
        Check.feed(x, "field 3 3;");
        x.border();
        CHECK.due("the image stays with a new border", x.octet(36), 3);
        CHECK.due("a shorter one", x.image(), 20);
        CHECK.due("has its last byte", x.octet(19) >= 0, true);
        CHECK.due("and nothing of the longer one", x.octet(20), -1);
        CHECK.due("nor there", x.octet(36), -1);
    }

    private static void lastCalls() {
        CHECK.says("An object is used for at most 512 calls after it has been made");
        BorderStones x = new BorderStones();
        int calls = 0;
        x.feed(0x6669656c, 0x64203320, 0x333b6b69, 0x6e642073, 0x20726561);
        x.feed(0x63682031, 0x3b202020, 0x20202020, 0x20202020, 0x20202020);
        CHECK.due("border", x.border(), 2);
        calls += 3;
        while (calls < 200) {
            x.set(0, -1);
            calls++;
        }
        while (calls < 511) {
            CHECK.due("DAY, call " + calls, x.has(4), 197);
            calls++;
        }
        CHECK.due("the 512th call", x.set(0, 4), 0);
    }
}
