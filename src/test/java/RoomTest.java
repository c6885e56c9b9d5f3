import java.lang.management.ManagementFactory;
import java.lang.reflect.Array;
import java.lang.reflect.Field;
import java.lang.reflect.Modifier;
import java.util.ArrayDeque;
import java.util.Collections;
import java.util.Deque;
import java.util.IdentityHashMap;
import java.util.Set;

/** All calls of a run live in one room: an object is small, and no call makes anything. */
public final class RoomTest {
    private static final Check CHECK = new Check();
    private static final String TEXT = "field 5 4;kind s reach 3;kind w reach 6 high sunk;stone s red at 1 0;stone s red at 0 1;"
        + "stone w blue at 2 1;stone s blue at 3 2;land red at 2 2;worth min(across, 2) + edge * 3 when not [down > 2] or all;";

    public static void main(String[] args) throws Exception {
        size();
        nothingIsMade();
        CHECK.close("RoomTest");
    }

    private static void size() throws Exception {
        int objects = 0;
        int cells = 0;
        Set<Object> seen = Collections.newSetFromMap(new IdentityHashMap<>());
        Deque<Object> open = new ArrayDeque<>();
        open.add(new BorderStones());
        while (!open.isEmpty()) {
            Object o = open.remove();
            if (!seen.add(o)) {
                continue;
            }
            objects++;
            if (o.getClass().isArray()) {
                cells += Array.getLength(o);
                continue;
            }
            for (Field f : o.getClass().getDeclaredFields()) {
                if (!Modifier.isStatic(f.getModifiers())) {
                    cells++;
                    f.setAccessible(true);
                    Object value = f.getType().isPrimitive() ? null : f.get(o);
                    if (value != null) {
                        open.add(value);
                    }
                }
            }
        }
        System.out.println("one object: " + objects + " objects and arrays, " + cells + " fields and elements");
        CHECK.due("objects and arrays below 80", objects < 80, true);
        CHECK.due("fields and elements below 6000", cells < 6000, true);
    }

    private static void nothingIsMade() {
        com.sun.management.ThreadMXBean threads = (com.sun.management.ThreadMXBean) ManagementFactory.getThreadMXBean();
        BorderStones x = Check.with(TEXT);
        int[] text = words();
        long sum = calls(x, text);
        long none = threads.getCurrentThreadAllocatedBytes();
        none = threads.getCurrentThreadAllocatedBytes() - none;
        long before = threads.getCurrentThreadAllocatedBytes();
        sum += calls(x, text);
        long made = threads.getCurrentThreadAllocatedBytes() - before - none;
        CHECK.due("bytes made by calls (" + (sum == 0) + ")", made, 0);
    }

    private static int[] words() {
        int[] words = new int[(TEXT.length() + 19) / 20 * 5];
        for (int i = 0; i < words.length * 4; i++) {
            words[i / 4] = words[i / 4] << 8 | (i < TEXT.length() ? TEXT.charAt(i) : ' ');
        }
        return words;
    }

    private static long calls(BorderStones x, int[] text) {
        long sum = 0;
        for (int i = 0; i < text.length; i += 5) {
            sum += x.feed(text[i], text[i + 1], text[i + 2], text[i + 3], text[i + 4]);
        }
        sum += x.end(TEXT.length()) ? 1 : 0;
        sum += x.border() + x.fault(0) + x.has(6) + x.letter(0, 0) + x.kind(0, 2) + x.place(3, 5) + x.side(1, 4);
        sum += x.set(0, 9) + x.set(1, 4) + (x.undo() ? 1 : 0) + x.threat(0, 8, 0) + x.answer(0) + x.fork(0) + x.line(1, 5);
        sum += x.play(2, 0) + x.thumb(1, 2, 1) + x.truce(0) + x.rows() + x.hidden(0xF0F0L, 0, 2, 7, 4) + x.look(0xF0F0L, 0, 2, 7);
        sum += (x.seed(5) ? 1 : 0) + x.year(10) + x.image() + x.octet(3);
        return sum;
    }
}
