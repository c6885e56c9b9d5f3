import java.util.Random;

/** Broken texts and wild arguments: nothing throws, and all that stands ahead of a fault is sound. */
public final class FuzzTest {
    private static final Check CHECK = new Check();
    private static final String[] SOUND = {
        "field 5 5;kind s reach 1;kind w reach 3 high;stone s red at 2 1;stone w blue at 0 0;land blue at 2 2;worth edge + 1 when all;",
        "field 7 5; kind abcdef reach 6 high sunk child; worth min(across, down * 2) - (3 / 2) when not [across > 2 or down = 1] and all;",
        "field 3 4;\nkind a reach 2 child;\nstone a red at 0 3;worth 9999 when 1 < 2;worth max(1,(2)) when not not not all;land red at 1 1;",
    };
    private static final String[] WORDS = {"field", "kind", "reach", "high", "sunk", "child", "stone", "red", "blue", "at", "land", "worth",
        "when", "or", "and", "not", "all", "across", "down", "edge", "min", "max", "s", "w", "abcdefg", "0", "1", "7", "12345", ";", "(", ")",
        "[", "]", ",", "<", ">", "=", "+", "-", "*", "/", " ", "\n", "\t", "!"};
    private static Random random;

    public static void main(String[] args) {
        for (int i = 0; i < 60000; i++) {
            random = new Random(i);
            oneText(broken(SOUND[i % SOUND.length]));
        }
        for (int i = 0; i < 400; i++) {
            random = new Random(i);
            wildCalls();
        }
        CHECK.close("FuzzTest");
    }

    private static String broken(String sound) {
        StringBuilder text = new StringBuilder(sound);
        for (int i = 1 + random.nextInt(3); i > 0; i--) {
            int at = random.nextInt(text.length() + 1);
            switch (random.nextInt(4)) {
                case 0: text.insert(at, WORDS[random.nextInt(WORDS.length)]); break;
                case 1: text.delete(at, Math.min(text.length(), at + 1 + random.nextInt(3))); break;
                case 2: text.setLength(at); break;
                default: text.insert(at, (char) random.nextInt(256)); break;
            }
        }
        return text.toString();
    }

    private static void oneText(String text) {
        BorderStones x = new BorderStones();
        Check.feed(x, text);
        if (x.border() != BorderStones.NONE) {
            CHECK.due("fault(0) of " + text, x.fault(0), 0);
            return;
        }
        int fault = x.fault(0);
        int at = x.fault(1);
        CHECK.due("a fault, its place in " + text, fault >= 1 && fault <= 5 && at >= 0 && at <= text.length(), true);
        // What is ahead of the fault has none of its own, but for ending too soon; a 5th digit or 7th letter
        // cut off can leave a number that can't be, or a name that is wrong.
        Check.feed(x, text.substring(0, at));
        int statements = x.border();
        boolean inside = at > 0 && fault == 1 && at < text.length() && joined(text.charAt(at - 1), text.charAt(at));
        boolean sound = statements != BorderStones.NONE || x.fault(0) == 1 && x.fault(1) == at;
        CHECK.due("ahead of " + at + " in " + text, sound || inside, true);
        // What is behind the fault's own word or number counts for nothing.
        int behind = at;
        while (behind < text.length() && behind - at < 8 && joined(text.charAt(at), text.charAt(behind))) {
            behind++;
        }
        behind = Math.max(behind, Math.min(text.length(), at + 1));
        Check.feed(x, text.substring(0, behind));
        CHECK.due("cut behind " + behind + ": " + text, x.border(), -1);
        if (fault != 5 && behind - at < 8) {
            CHECK.due("the same fault, cut behind " + behind + ": " + text, x.fault(0), fault);
        }
        CHECK.due("at the same place, cut behind " + behind + ": " + text, x.fault(1), at);
    }

    /** Whether two signs can be of one word or number. */
    private static boolean joined(char a, char b) {
        return a >= 'a' && a <= 'z' && b >= 'a' && b <= 'z' || a >= '0' && a <= '9' && b >= '0' && b <= '9';
    }

    private static int wild() {
        int[] some = {Integer.MIN_VALUE, Integer.MAX_VALUE, -1, 0, 1, 2, 3, 4, 5, 6, 35, 36, 200};
        return random.nextInt(3) == 0 ? random.nextInt() : random.nextInt(2) == 0 ? random.nextInt(40) - 2
            : some[random.nextInt(some.length)];
    }

    /** All calls with any arguments, in any state; that none throws is what is looked at. */
    private static void wildCalls() {
        BorderStones x = new BorderStones();
        long sum = 0;
        for (int i = 0; i < 512; i++) {
            switch (random.nextInt(27)) {
                case 0: sum += x.feed(wild(), wild(), wild(), wild(), wild()); break;
                case 1: sum += x.end(wild()) ? 1 : 0; break;
                case 2: sum += x.border(); break;
                case 3: sum += x.fault(wild()); break;
                case 4: sum += x.has(wild()); break;
                case 5: sum += x.letter(wild(), wild()); break;
                case 6: sum += x.kind(wild(), wild()); break;
                case 7: sum += x.place(wild(), wild()); break;
                case 8: sum += x.side(wild(), wild()); break;
                case 9: case 10: sum += x.set(random.nextInt(5), wild()); break;
                case 11: sum += x.undo() ? 1 : 0; break;
                case 12: sum += x.threat(wild(), wild(), wild()); break;
                case 13: sum += x.answer(wild()); break;
                case 14: sum += x.fork(wild()); break;
                case 15: sum += x.line(wild(), wild()); break;
                case 16: sum += x.play(wild(), wild()); break;
                case 17: sum += x.thumb(wild(), wild(), wild()); break;
                case 18: sum += x.truce(wild()); break;
                case 19: sum += x.rows(); break;
                case 20: sum += x.hidden(random.nextLong() >>> random.nextInt(64), wild(), wild(), wild(), wild()); break;
                case 21: sum += x.look(random.nextLong() >>> random.nextInt(64), wild(), wild(), wild()); break;
                case 22: sum += x.seed(wild()) ? 1 : 0; break;
                case 23: sum += x.year(wild()); break;
                case 24: sum += x.image(); break;
                case 25: sum += x.octet(wild()); break;
                default:
                    x.end(0);
                    Check.feed(x, random.nextBoolean() ? SOUND[random.nextInt(SOUND.length)] : broken(SOUND[random.nextInt(SOUND.length)]));
                    sum += x.border();
                    break;
            }
        }
        CHECK.due("512 wild calls", sum != Long.MIN_VALUE, true);
    }
}
