/** Promises 1 to 5: a new object, the tape, texts and their faults, what places are worth. */
public final class TextTest {
    private static final Check CHECK = new Check();
    private static final String FIELD = "field 5 5;";
    private static final String KIND = FIELD + "kind k reach 2;";

    public static void main(String[] args) {
        newObject();
        tape();
        fields();
        kinds();
        stones();
        land();
        rules();
        opens();
        tooMany();
        worths();
        tests();
        staysWithFault();
        beginsAnew();
        CHECK.close("TextTest");
    }

    private static void newObject() {
        BorderStones x = new BorderStones();
        for (int what = 0; what <= 8; what++) {
            CHECK.due("new: has(" + what + ")", x.has(what), 0);
        }
        CHECK.due("new: fault(0)", x.fault(0), 0);
        CHECK.due("new: fault(1)", x.fault(1), -1);
        CHECK.due("new: place(0, 3)", x.place(0, 3), -1);
        CHECK.due("new: kind(0, 0)", x.kind(0, 0), -1);
        CHECK.due("new: side(1, 6)", x.side(1, 6), 0);
        CHECK.due("new: set(0, -1)", x.set(0, -1), -1);
        CHECK.due("new: undo()", x.undo(), false);
        CHECK.due("new: truce(-1)", x.truce(-1), -1);
        CHECK.due("new: truce(0)", x.truce(0), -1);
        CHECK.due("new: play(1, 0)", x.play(1, 0), -1000000000);
        CHECK.due("new: octet(0)", x.octet(0), -1);
        CHECK.due("NONE", BorderStones.NONE, -1);
        CHECK.due("NOTHING", BorderStones.NOTHING, -1000000000);
    }

    private static void tape() {
        BorderStones x = new BorderStones();
        CHECK.due("end(0) of an empty tape", x.end(0), true);
        CHECK.due("end(1) of an empty tape", x.end(1), false);
        for (int i = 1; i <= 80; i++) {
            CHECK.due("feed " + i, x.feed(0, 0, 0, 0, 0), 20 * i);
        }
        CHECK.due("feed 81", x.feed(0, 0, 0, 0, 0), -1);
        CHECK.due("end(1601)", x.end(1601), false);
        CHECK.due("end(-1)", x.end(-1), false);
        CHECK.due("end(least)", x.end(Integer.MIN_VALUE), false);
        CHECK.due("end(1600)", x.end(1600), true);
        CHECK.due("end(1581)", x.end(1581), true);
        CHECK.due("feed behind 1581", x.feed(0, 0, 0, 0, 0), -1);
        CHECK.due("end(1582)", x.end(1582), false);
        CHECK.due("end(1580)", x.end(1580), true);
        CHECK.due("feed behind 1580", x.feed(0, 0, 0, 0, 0), 1600);
        CHECK.due("border of zeros", x.border(), -1);
        CHECK.due("the tape goes with a fault", x.end(1), false);
        // "fiel" "d 3 " "4;  " and blanks; the highest byte comes first
        CHECK.due("feed of a text", x.feed(0x6669656c, 0x64203320, 0x343b2020, 0x20202020, 0x0a0a0a0a), 20);
        CHECK.due("border of that", x.border(), 1);
        CHECK.due("its WIDE", x.has(0), 3);
        CHECK.due("its HIGH", x.has(1), 4);
        CHECK.due("the tape goes", x.end(1), false);
    }

    private static void fields() {
        CHECK.fault(1, "|");
        CHECK.fault(1, "   |");
        CHECK.fault(1, " \n|");
        CHECK.fault(1, "|x;");
        CHECK.fault(1, "|;");
        CHECK.fault(1, "|fie");
        CHECK.fault(1, "|fields 5 5;");
        CHECK.fault(1, "|Field 5 5;");
        CHECK.fault(1, "|kind k reach 1;");
        CHECK.fault(1, "field|");
        CHECK.fault(1, "field |");
        CHECK.fault(1, "field|5 5;");
        CHECK.fault(1, "field|\t5 5;");
        CHECK.fault(1, "field |x 5;");
        CHECK.fault(1, "field 5|");
        CHECK.fault(1, "field 5|;");
        CHECK.fault(1, "field 5 5|");
        CHECK.fault(1, "field 5 5 |");
        CHECK.fault(1, "field 5 5 |5;");
        CHECK.fault(1, "field 5 5|x;");
        CHECK.fault(1, "field 5 5;|;");
        CHECK.fault(1, "field 5 5; |field 5 5;");
        CHECK.fault(1, "field 5 5; |" + (char) 233);
        CHECK.fault(1, "field 1234|5 5;");
        CHECK.fault(1, "field 5 0000|5;");
        CHECK.fault(2, "field |2");
        CHECK.fault(2, "field |8 5;");
        CHECK.fault(2, "field |9999 5;");
        CHECK.fault(2, "field |9x");
        CHECK.fault(2, "field 5 |2;");
        CHECK.fault(2, "field 5 |8;");
        CHECK.fault(2, "field 7 |6;");
        CHECK.fault(2, "field 6 |7;");
        CHECK.fine(1, "field 3 3;");
        CHECK.fine(1, "field 7 5;");
        CHECK.fine(1, "field 5 7;");
        CHECK.fine(1, "field 6 6;");
        CHECK.fine(1, "\n field\n0005 \n5 ; \n");
    }

    private static void kinds() {
        CHECK.fault(1, FIELD + "kind|");
        CHECK.fault(1, FIELD + "kind |");
        CHECK.fault(1, FIELD + "kind |5 reach 1;");
        CHECK.fault(1, FIELD + "kind |at reach 1;");
        CHECK.fault(1, FIELD + "kind |across reach 1;");
        CHECK.fault(1, FIELD + "kind abcdef|g reach 1;");
        CHECK.fault(1, FIELD + "kind across|x reach 1;");
        CHECK.fault(1, FIELD + "kind abc|D reach 1;");
        CHECK.fault(1, FIELD + "kind k|5 reach 1;");
        CHECK.fault(1, FIELD + "kind k|");
        CHECK.fault(1, FIELD + "kind k |reac 1;");
        CHECK.fault(1, FIELD + "kind k |reaches 1;");
        CHECK.fault(1, FIELD + "kind k reach|;");
        CHECK.fault(1, FIELD + "kind k reach|1;");
        CHECK.fault(1, FIELD + "kind k reach 0000|1;");
        CHECK.fault(1, FIELD + "kind k reach 1|high;");
        CHECK.fault(1, FIELD + "kind k reach 1 |low;");
        CHECK.fault(1, FIELD + "kind k reach 1 |2;");
        CHECK.fault(1, FIELD + "kind k reach 1 high |high;");
        CHECK.fault(1, FIELD + "kind k reach 1 sunk child high |sunk;");
        CHECK.fault(1, FIELD + "kind k reach 1 child|");
        CHECK.fault(2, FIELD + "kind k reach |0;");
        CHECK.fault(2, FIELD + "kind k reach |7;");
        CHECK.fault(2, FIELD + "kind k reach |7high;");
        CHECK.fault(3, KIND + "kind |k reach 1;");
        CHECK.fault(3, KIND + "kind |k");
        CHECK.fine(2, FIELD + "kind abcdef reach 6 child sunk high;");
        CHECK.fine(3, KIND + "kind kk reach 1;");
        CHECK.fine(2, FIELD + "kind atx reach 1;");
    }

    private static void stones() {
        CHECK.fault(1, KIND + "stone|");
        CHECK.fault(1, KIND + "stone |red at 1 1;");
        CHECK.fault(1, KIND + "stone abcdef|g red at 1 1;");
        CHECK.fault(1, KIND + "stone k |green at 1 1;");
        CHECK.fault(1, KIND + "stone k |reds at 1 1;");
        CHECK.fault(1, KIND + "stone k red |1 1;");
        CHECK.fault(1, KIND + "stone k red at|1 1;");
        CHECK.fault(1, KIND + "stone k red at 1|;");
        CHECK.fault(1, KIND + "stone k red at 1 1|");
        CHECK.fault(1, KIND + "stone k red at 1 1 |high;");
        CHECK.fault(2, KIND + "stone k red at |5 1;");
        CHECK.fault(2, KIND + "stone k red at 1 |5;");
        CHECK.fault(2, KIND + "stone k red at 1 1;stone k blue at 1 |1;");
        CHECK.fault(3, KIND + "stone |x red at 1 1;");
        CHECK.fault(3, FIELD + "stone |k red at 1 1;kind k reach 2;");
        CHECK.fault(3, KIND + "stone |kk red at 1 1;");
        CHECK.fault(3, KIND + "stone |kred at 1 1;");
        BorderStones x = Check.with("field 4 3;kind k reach 2;kind l reach 1;stone l blue at 3 2;stone k red at 0 1;");
        CHECK.due("a stone's side", x.place(11, 0), 1);
        CHECK.due("a stone's kind", x.place(11, 1), 1);
        CHECK.due("another stone's side", x.place(4, 0), 0);
        CHECK.due("another stone's kind", x.place(4, 1), 0);
    }

    private static void land() {
        CHECK.fault(1, FIELD + "land|");
        CHECK.fault(1, FIELD + "land |k at 1 1;");
        CHECK.fault(1, FIELD + "land red |1 1;");
        CHECK.fault(2, FIELD + "land red at |5 1;");
        CHECK.fault(2, FIELD + "land red at 1 |5;");
        BorderStones x = Check.with("field 4 3;land red at 3 1;land blue at 0 0;land blue at 3 1;");
        CHECK.due("the last land counts", x.place(7, 2), 1);
        CHECK.due("the first does not", x.side(0, 5), 0);
        CHECK.due("blue's land", x.side(1, 5), 2);
        CHECK.due("nobody's land", x.place(1, 2), -1);
    }

    private static void rules() {
        CHECK.fault(1, FIELD + "worth|");
        CHECK.fault(1, FIELD + "worth |when all;");
        CHECK.fault(1, FIELD + "worth |-1 when all;");
        CHECK.fault(1, FIELD + "worth 1234|5 when all;");
        CHECK.fault(1, FIELD + "worth 1|when all;");
        CHECK.fault(1, FIELD + "worth 1 |all;");
        CHECK.fault(1, FIELD + "worth 1 + |when all;");
        CHECK.fault(1, FIELD + "worth 1 |2 when all;");
        CHECK.fault(1, FIELD + "worth |[1] when all;");
        CHECK.fault(1, FIELD + "worth (1|] when all;");
        CHECK.fault(1, FIELD + "worth (|) when all;");
        CHECK.fault(1, FIELD + "worth min |1 when all;");
        CHECK.fault(1, FIELD + "worth min(1|) when all;");
        CHECK.fault(1, FIELD + "worth max(1,2|,3) when all;");
        CHECK.fault(1, FIELD + "worth |k when all;");
        CHECK.fault(1, FIELD + "worth 1 when|;");
        CHECK.fault(1, FIELD + "worth 1 when 1|;");
        CHECK.fault(1, FIELD + "worth 1 when 1 <|;");
        CHECK.fault(1, FIELD + "worth 1 when 1 = |all;");
        CHECK.fault(1, FIELD + "worth 1 when 1 >|> 2;");
        CHECK.fault(1, FIELD + "worth 1 * |;");
        CHECK.fault(1, FIELD + "worth 1 when [all and|];");
        CHECK.fault(1, FIELD + "worth 1 when 1 < 2 |< 3;");
        CHECK.fault(1, FIELD + "worth 1 when (1 |< 2);");
        CHECK.fault(1, FIELD + "worth 1 when [all|);");
        CHECK.fault(1, FIELD + "worth 1 when all |all;");
        CHECK.fault(1, FIELD + "worth 1 when not|;");
        CHECK.fault(1, FIELD + "worth 1 when all or|;");
        CHECK.fault(1, FIELD + "worth 1 when all and |or all;");
        CHECK.fault(1, FIELD + "worth 1 when all|");
        CHECK.fault(1, FIELD + "worth 1 when 1|not;");
        CHECK.fine(2, FIELD + "worth(1)when(1)<(2)and[all]or not all;");
    }

    private static void opens() {
        CHECK.fine(2, FIELD + "worth ((((((1)))))) when all;");
        CHECK.fault(4, FIELD + "worth ((((((|(1))))))) when all;");
        CHECK.fine(2, FIELD + "worth 1 when [[[[[[all]]]]]];");
        CHECK.fault(4, FIELD + "worth 1 when [[[[[[|[all]]]]]]];");
        CHECK.fine(2, FIELD + "worth 1 when not not not not not not all;");
        CHECK.fault(4, FIELD + "worth 1 when not not not not not not |not all;");
        CHECK.fine(2, FIELD + "worth 1 when not not not not not not all and not not not not not not 1 < 2 or not all;");
        CHECK.fault(4, FIELD + "worth 1 when not not not not not not |(1) < 2;");
        CHECK.fault(4, FIELD + "worth min(1,min(1,min(1,min(1,min(1,min(1,max|(1,2))))))) when all;");
        CHECK.fine(2, FIELD + "worth min(1,min(1,min(1,min(1,min(1,max(1,2)))))) when all;");
        CHECK.fault(4, FIELD + "worth 1 when [ not [ not ( ( |( 1 ) ) ) < 2 ] ];");
        CHECK.fine(2, FIELD + "worth (1)+(1)+(1)+(1)+(1)+(1)+(1)+(1) when [all] and [all] and [all] and [all] and [all] and [all] and [all];");
        CHECK.fault(1, FIELD + "worth ((((((1|;");
    }

    private static void tooMany() {
        StringBuilder five = new StringBuilder(FIELD);
        for (int i = 0; i < 5; i++) {
            five.append("kind k").append((char) ('a' + i)).append(" reach 1;");
        }
        CHECK.fine(6, five.toString());
        CHECK.fault(5, five + " |kind kf reach 1;");
        CHECK.fault(5, five + "|kind at");
        CHECK.fault(1, five + "|kinds");
        CHECK.fault(3, five + "stone |kf red at 1 1;");
        CHECK.fine(7, five + "stone ke red at 1 1;");
        StringBuilder twenty = new StringBuilder(KIND);
        for (int i = 0; i < 20; i++) {
            twenty.append("stone k red at ").append(i % 5).append(' ').append(i / 5).append(";\n");
        }
        CHECK.fine(22, twenty.toString());
        CHECK.fault(5, twenty + "|stone k red at 0 4;");
        CHECK.fault(5, twenty + "|stone 5");
        StringBuilder six = new StringBuilder(FIELD);
        for (int i = 0; i < 6; i++) {
            six.append("worth 1 when all;");
        }
        CHECK.fine(7, six.toString());
        CHECK.fault(5, six + "|worth 1 when all;");
        StringBuilder eighty = new StringBuilder(FIELD);
        for (int i = 0; i < 79; i++) {
            eighty.append("land red at 1 1;");
        }
        CHECK.fine(80, eighty + "  \n");
        CHECK.fault(5, eighty + " |land red at 1 1;");
        CHECK.fault(5, eighty + "|;");
        CHECK.fault(5, eighty + "\n|x");
        CHECK.fault(5, eighty + "|field");
        CHECK.fault(5, eighty + "|" + (char) 0);
    }

    /** What a place of a field of 5 and 5 is worth by some rules. */
    private static void worth(int place, int want, String rules) {
        BorderStones x = Check.with(FIELD + rules);
        CHECK.due("worth of " + place + " by " + rules, x.place(place, 3), want);
    }

    private static void worths() {
        worth(0, 1, "");
        worth(0, 0, "worth 5 when not all;");
        worth(0, 5, "worth 5 when all;worth 6 when all;");
        worth(0, 6, "worth 5 when not all;worth 6 when all;");
        worth(0, 14, "worth 2 + 3 * 4 when all;");
        worth(0, 20, "worth (2 + 3) * 4 when all;");
        worth(0, 5, "worth 10 - 3 - 2 when all;");
        worth(0, 8, "worth 12 / 3 * 2 when all;");
        worth(0, 3, "worth 7 / 2 when all;");
        worth(0, 6, "worth 10 + (0 - 7) / 2 when all;");
        worth(0, 6, "worth 10 + 7 / (0 - 2) when all;");
        worth(0, 3, "worth 5 / 0 + 3 when all;");
        worth(0, 0, "worth 0 - 5 when all;");
        worth(0, 99, "worth 99 when all;");
        worth(0, 99, "worth 100 when all;");
        worth(0, 50, "worth 9999 * 9999 / (1000 * 20) when all;");
        worth(0, 9, "worth 0 - 9999 * 9999 - 9999 * 9999 + 9999 * 9999 + 9 when all;");
        worth(0, 7, "worth 9999 * 999 + 9999 * 9 - 9999 * 9999 + 7 when all;");
        worth(0, 2, "worth min(2, 3) when all;");
        worth(0, 3, "worth max(2, 1 + 2) when all;");
        worth(13, 3, "worth across when all;");
        worth(13, 2, "worth down when all;");
        worth(12, 2, "worth edge when all;");
        worth(13, 1, "worth edge when all;");
        worth(22, 0, "worth edge when all;");
        worth(16, 1, "worth edge when all;");
        worth(0, 3, "worth 0003 when all;");
    }

    private static void tests() {
        worth(7, 5, "worth 5 when across = 2 and down = 1;");
        worth(8, 0, "worth 5 when across = 2 and down = 1;");
        worth(8, 5, "worth 5 when across > 2;");
        worth(7, 0, "worth 5 when across > 2;");
        worth(7, 5, "worth 5 when across < 3;");
        worth(8, 0, "worth 5 when across < 3;");
        worth(0, 5, "worth 5 when all or all and not all;");
        worth(0, 0, "worth 5 when [all or all] and not all;");
        worth(0, 0, "worth 5 when not all or not all;");
        worth(0, 5, "worth 5 when not all or all;");
        worth(0, 5, "worth 5 when not 1 > 2 and all;");
        worth(0, 0, "worth 5 when not [not all or all];");
        worth(0, 5, "worth 5 when not not all;");
        worth(0, 5, "worth 5 when 1 + 2 = 3;");
    }

    private static void staysWithFault() {
        BorderStones x = Check.with("field 3 3;kind s reach 1;stone s red at 1 0;stone s red at 0 1;stone s red at 2 1;");
        x.set(0, 7);
        Check.feed(x, "field 4 4;kind t reach 1;stone t red at 0 0;land red at 0 0;worth 9 when all;oops");
        CHECK.due("a fault", x.border(), -1);
        CHECK.due("all stays: WIDE", x.has(0), 3);
        CHECK.due("all stays: DAY", x.has(4), 1);
        CHECK.due("all stays: STONES", x.has(5), 4);
        CHECK.due("all stays: OWED", x.has(7), 1);
        CHECK.due("all stays: undo", x.has(8), 1);
        CHECK.due("all stays: worth", x.place(0, 3), 1);
        CHECK.due("all stays: land", x.place(0, 2), -1);
        CHECK.due("all stays: letter", x.letter(0, 0), 19);
        CHECK.due("all stays: reach", x.kind(0, 0), 1);
        CHECK.due("and goes on", x.undo(), true);
        CHECK.due("the fault is told", x.fault(0), 1);
        Check.feed(x, "field 3 3;");
        CHECK.due("a sound one", x.border(), 1);
        CHECK.due("has no fault", x.fault(0), 0);
        CHECK.due("nor its place", x.fault(1), -1);
        CHECK.due("nothing of the fault's text", x.has(2), 0);
    }

    private static void beginsAnew() {
        String text = "field 3 3;kind s reach 1;stone s red at 1 0;stone s red at 0 1;stone s red at 2 1;";
        BorderStones x = Check.with(text);
        x.seed(77);
        x.set(0, 7);
        x.set(0, -1);
        CHECK.due("changed hands", x.place(4, 7), 1);
        x.undo();
        x.set(0, -1);
        x.set(0, 8);
        x.image();
        Check.feed(x, text);
        CHECK.due("statements", x.border(), 5);
        CHECK.due("DAY 0", x.has(4), 0);
        CHECK.due("nothing OWED", x.has(6), 0);
        CHECK.due("nothing to undo", x.has(8), 0);
        CHECK.due("no undo", x.undo(), false);
        CHECK.due("no change", x.place(4, 7), 0);
        CHECK.due("no land", x.place(4, 2), -1);
        CHECK.due("the image stays", x.octet(0), 3);
        BorderStones y = Check.with(text);
        y.seed(77);
        CHECK.due("the seed stays", x.year(5), y.year(5));
        for (int p = 0; p < 9; p++) {
            CHECK.due("the seed stays, place " + p, x.place(p, 0), y.place(p, 0));
        }
    }
}
