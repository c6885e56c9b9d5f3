import java.util.ArrayList;
import java.util.List;
import java.util.Random;
import java.util.Set;
import java.util.function.IntBinaryOperator;

/** Random borders and random calls, each answer held against the slow model (promises 4, 6 to 26). */
public final class ModelTest {
    private static final Check CHECK = new Check();
    private static Random random;
    private static Model model;
    private static BorderStones x;
    private static String text;
    private static List<Integer> image = List.of();

    public static void main(String[] args) {
        for (int run = 0; run < 400; run++) {
            random = new Random(run);
            x = new BorderStones();
            long seed = 1;
            image = List.of();
            for (int border = 0; border < 3; border++) {
                do {
                    makeBorder(run);
                } while (text.length() > 1600);
                model.seed = seed;
                Check.feed(x, text);
                CHECK.due(tell(run, "border()"), x.border(), statements());
                checkAll(run);
                for (int i = 0; i < 40; i++) {
                    oneCall(run);
                }
                checkAll(run);
                seed = model.seed;
            }
        }
        rowRuns();
        CHECK.close("ModelTest");
    }

    /** Borders that grow DAY by DAY from a field without STONES, so that ROWS OF DAYS has LAND to tell apart. */
    private static void rowRuns() {
        int withLand = 0;
        for (int run = 1000; run < 1200; run++) {
            random = new Random(run);
            int wide = 4 + random.nextInt(2);
            model = new Model(wide, 4);
            model.reach = new int[] {6, 3};
            model.marks = new int[] {random.nextInt(4), random.nextInt(8)};
            java.util.Arrays.fill(model.worth, 1);
            text = "field " + wide + " 4;kind a reach 6" + marks(0) + ";kind b reach 3" + marks(1) + ";";
            x = Check.with(text);
            for (int day = 0; day < 9; day++) {
                int k = random.nextInt(6) == 0 ? 1 : 0;
                int p = threatening(k);
                due(run, "set(" + k + ", " + p + ")", x.set(k, p), model.set(k, p));
                due(run, "rows()", x.rows(), model.rows());
            }
            withLand += x.side(0, 5) + x.side(1, 5) > 0 ? 1 : 0;
        }
        CHECK.due("enough borders came to have LAND: " + withLand, withLand > 40, true);
    }

    /** A free place by which something comes to be OWED, if there is one, else any free place. */
    private static int threatening(int k) {
        List<Integer> free = new ArrayList<>();
        for (int p = 0; p < model.places(); p++) {
            if (model.threat(k, p, 0) > 0) {
                return p;
            }
            if (model.owner[p] == Model.NONE) {
                free.add(p);
            }
        }
        return free.get(random.nextInt(free.size()));
    }

    private static String marks(int kind) {
        return ((model.marks[kind] & 1) != 0 ? " high" : "") + ((model.marks[kind] & 2) != 0 ? " sunk" : "")
            + ((model.marks[kind] & 4) != 0 ? " child" : "");
    }

    private static String tell(int run, String call) {
        return "run " + run + ", day " + model.day + ", " + text.replace('\n', ' ') + ": " + call;
    }

    private static int statements() {
        return (int) text.chars().filter(c -> c == ';').count();
    }

    // ---- borders

    private static void makeBorder(int run) {
        int wide = 3 + random.nextInt(5);
        int high = 3 + random.nextInt(Math.min(7, 36 / wide) - 2);
        model = new Model(wide, high);
        StringBuilder told = new StringBuilder("field" + gap() + wide + gap() + high + " ;");
        int kinds = run % 20 == 0 ? 0 : 1 + random.nextInt(5);
        model.reach = new int[kinds];
        model.marks = new int[kinds];
        for (int k = 0; k < kinds; k++) {
            tellKind(told, k);
        }
        int stones = kinds == 0 ? 0 : random.nextInt(Math.min(20, wide * high) + 1);
        for (int i = 0; i < stones; i++) {
            tellStone(told, random.nextInt(kinds), random.nextInt(5) < 3 ? 0 : 1);
        }
        for (int i = random.nextInt(7); i > 0; i--) {
            int side = random.nextInt(2);
            int p = random.nextInt(model.places());
            told.append("land").append(gap()).append(side == 0 ? "red" : "blue").append(gap()).append("at ")
                .append(p % wide).append(gap()).append(p / wide).append(";\n");
            model.land[p] = side;
        }
        tellRules(told);
        text = told.toString();
    }

    private static String gap() {
        return random.nextInt(4) == 0 ? "\n" : random.nextInt(4) == 0 ? "  " : " ";
    }

    private static void tellKind(StringBuilder told, int k) {
        model.reach[k] = random.nextInt(3) == 0 ? 1 + random.nextInt(6) : 1 + random.nextInt(3);
        String[] names = {"high", "sunk", "child"};
        told.append("kind").append(gap()).append("k").append((char) ('a' + k)).append(" reach ").append(model.reach[k]);
        for (int bit = 2; bit >= 0; bit--) {
            if (random.nextInt(k == 0 ? 8 : 3) == 0) {
                model.marks[k] |= 1 << bit;
                told.append(gap()).append(names[bit]);
            }
        }
        told.append(";");
    }

    private static void tellStone(StringBuilder told, int k, int side) {
        int p = random.nextInt(model.places());
        if (model.owner[p] != Model.NONE) {
            return;
        }
        model.owner[p] = side;
        model.kind[p] = k;
        told.append("stone k").append((char) ('a' + k)).append(gap()).append(side == 0 ? "red" : "blue").append(" at")
            .append(gap()).append(p % model.wide).append(gap()).append(p / model.wide).append(";");
    }

    private static void tellRules(StringBuilder told) {
        int rules = random.nextInt(4);
        java.util.Arrays.fill(model.worth, rules == 0 ? 1 : 0);
        boolean[] found = new boolean[model.places()];
        for (int r = 0; r < rules; r++) {
            StringBuilder rule = new StringBuilder();
            rule.append("worth ");
            IntBinaryOperator sum = sum(rule, 2);
            rule.append(" when ");
            IntBinaryOperator test = test(rule, 2);
            rule.append(";");
            told.append(rule);
            for (int p = 0; p < model.places(); p++) {
                if (!found[p] && test.applyAsInt(p % model.wide, p / model.wide) == 1) {
                    found[p] = true;
                    model.worth[p] = Math.min(99, Math.max(0, sum.applyAsInt(p % model.wide, p / model.wide)));
                }
            }
        }
        ruleCount = rules;
    }

    private static int ruleCount;

    private static int limit(long v) {
        return v > 1000000 ? 1000000 : v < -1000000 ? -1000000 : (int) v;
    }

    private static IntBinaryOperator sum(StringBuilder out, int deep) {
        IntBinaryOperator left = product(out, deep);
        for (int i = random.nextInt(3); i > 0; i--) {
            boolean plus = random.nextBoolean();
            out.append(plus ? "+" : " - ");
            IntBinaryOperator a = left;
            IntBinaryOperator b = product(out, deep);
            left = (u, v) -> limit((long) a.applyAsInt(u, v) + (plus ? 1 : -1) * b.applyAsInt(u, v));
        }
        return left;
    }

    private static IntBinaryOperator product(StringBuilder out, int deep) {
        IntBinaryOperator left = part(out, deep);
        for (int i = random.nextInt(3); i > 0; i--) {
            boolean times = random.nextBoolean();
            out.append(times ? " *" : "/ ");
            IntBinaryOperator a = left;
            IntBinaryOperator b = part(out, deep);
            left = (u, v) -> times ? limit((long) a.applyAsInt(u, v) * b.applyAsInt(u, v))
                : b.applyAsInt(u, v) == 0 ? 0 : (int) Math.floor((double) a.applyAsInt(u, v) / b.applyAsInt(u, v));
        }
        return left;
    }

    private static IntBinaryOperator part(StringBuilder out, int deep) {
        int wide = model.wide;
        int high = model.high;
        switch (random.nextInt(deep > 0 ? 7 : 4)) {
            case 0: {
                int n = random.nextInt(3) == 0 ? random.nextInt(10000) : random.nextInt(8);
                out.append(n);
                return (u, v) -> n;
            }
            case 1: out.append("across"); return (u, v) -> u;
            case 2: out.append("down"); return (u, v) -> v;
            case 3: out.append("edge"); return (u, v) -> Math.min(Math.min(u, wide - 1 - u), Math.min(v, high - 1 - v));
            case 4: {
                out.append("( ");
                IntBinaryOperator s = sum(out, deep - 1);
                out.append(")");
                return s;
            }
            default: {
                boolean min = random.nextBoolean();
                out.append(min ? "min(" : "max (");
                IntBinaryOperator a = sum(out, deep - 1);
                out.append(" ,");
                IntBinaryOperator b = sum(out, deep - 1);
                out.append(")");
                return (u, v) -> min ? Math.min(a.applyAsInt(u, v), b.applyAsInt(u, v)) : Math.max(a.applyAsInt(u, v), b.applyAsInt(u, v));
            }
        }
    }

    private static IntBinaryOperator test(StringBuilder out, int deep) {
        IntBinaryOperator left = both(out, deep);
        for (int i = random.nextInt(2); i > 0; i--) {
            out.append(" or ");
            IntBinaryOperator a = left;
            IntBinaryOperator b = both(out, deep);
            left = (u, v) -> a.applyAsInt(u, v) + b.applyAsInt(u, v) > 0 ? 1 : 0;
        }
        return left;
    }

    private static IntBinaryOperator both(StringBuilder out, int deep) {
        IntBinaryOperator left = fact(out, deep);
        for (int i = random.nextInt(2); i > 0; i--) {
            out.append(" and ");
            IntBinaryOperator a = left;
            IntBinaryOperator b = fact(out, deep);
            left = (u, v) -> a.applyAsInt(u, v) * b.applyAsInt(u, v);
        }
        return left;
    }

    private static IntBinaryOperator fact(StringBuilder out, int deep) {
        int choice = random.nextInt(deep > 0 ? 5 : 3);
        if (choice == 3) {
            out.append("not ");
            IntBinaryOperator f = fact(out, deep - 1);
            return (u, v) -> 1 - f.applyAsInt(u, v);
        }
        if (choice == 4) {
            out.append("[");
            IntBinaryOperator t = test(out, deep - 1);
            out.append("]");
            return t;
        }
        if (choice == 0 && random.nextInt(3) == 0) {
            out.append("all");
            return (u, v) -> 1;
        }
        IntBinaryOperator a = sum(out, 0);
        int sign = random.nextInt(3);
        out.append("<>=".charAt(sign));
        IntBinaryOperator b = sum(out, 0);
        return (u, v) -> {
            int c = Integer.compare(a.applyAsInt(u, v), b.applyAsInt(u, v));
            return c == (sign == 0 ? -1 : sign == 1 ? 1 : 0) ? 1 : 0;
        };
    }

    // ---- calls

    private static int any(int most) {
        return random.nextInt(most + 3) - 1;
    }

    private static int anyPlace() {
        return random.nextInt(8) == 0 ? random.nextInt(45) - 4 : random.nextInt(model.places());
    }

    private static int anyKind() {
        return random.nextInt(8) == 0 ? random.nextInt(9) - 2 : random.nextInt(Math.max(1, model.reach.length));
    }

    private static void oneCall(int run) {
        switch (random.nextInt(16)) {
            case 0: case 1: case 2: case 3: {
                int k = anyKind();
                int p = goodPlace();
                due(run, "set(" + k + ", " + p + ")", x.set(k, p), model.set(k, p));
                break;
            }
            case 4: due(run, "undo()", x.undo() ? 1 : 0, model.undo() ? 1 : 0); break;
            case 5: {
                int k = anyKind();
                int p = anyPlace();
                int what = any(3);
                due(run, "threat(" + k + ", " + p + ", " + what + ")", x.threat(k, p, what), model.threat(k, p, what));
                break;
            }
            case 6: {
                int k = any(4);
                due(run, "answer(" + k + ")", x.answer(k), model.answer(k));
                break;
            }
            case 7: {
                int k = anyKind();
                due(run, "fork(" + k + ")", x.fork(k), model.fork(k));
                break;
            }
            case 8: {
                int a = anyPlace();
                int b = anyPlace();
                due(run, "line(" + a + ", " + b + ")", x.line(a, b), model.lineAsked(a, b));
                break;
            }
            case 9: playCall(run); break;
            case 10: {
                int k = any(4);
                due(run, "truce(" + k + ")", x.truce(k), model.truce(k));
                break;
            }
            case 11: due(run, "rows()", x.rows(), model.rows()); break;
            case 12: case 13: hiddenCall(run); break;
            case 14: yearCall(run); break;
            default: imageCall(run); break;
        }
    }

    /** Often a place that does something, else the runs are dull. */
    private static int goodPlace() {
        if (random.nextInt(3) > 0) {
            for (int i = 0; i < 12; i++) {
                int p = random.nextInt(model.places());
                if (model.threat(0, p, 0) > 0 || model.threat(0, p, 2) > 0) {
                    return p;
                }
            }
        }
        return anyPlace();
    }

    private static void due(int run, String call, int got, int want) {
        CHECK.due(tell(run, call), got, want);
    }

    private static void playCall(int run) {
        int n = any(3);
        if (n == 3 && random.nextInt(12) > 0 || n == 2 && random.nextInt(3) > 0) {
            n = 1;
        }
        int what = random.nextInt(10) == 0 ? any(2) : random.nextInt(2);
        if (random.nextBoolean()) {
            due(run, "play(" + n + ", " + what + ")", x.play(n, what), model.play(n, what));
        } else {
            int rule = any(2);
            due(run, "thumb(" + rule + ", " + n + ", " + what + ")", x.thumb(rule, n, what), model.thumb(rule, n, what));
        }
    }

    private static void hiddenCall(int run) {
        long bits = 0;
        for (int i = random.nextInt(16); i > 0; i--) {
            bits |= 1L << random.nextInt(model.places());
        }
        if (random.nextInt(20) == 0) {
            bits |= 1L << random.nextInt(64);
        }
        int side = random.nextInt(12) == 0 ? any(2) : random.nextInt(2);
        int many = random.nextInt(12) == 0 ? any(4) : 1 + random.nextInt(3);
        int told = goodTold();
        int k = random.nextInt(3) == 0 ? -1 : anyPlace();
        String args = "(" + bits + ", " + side + ", " + many + ", " + told;
        if (random.nextBoolean()) {
            due(run, "hidden" + args + ", " + k + ")", x.hidden(bits, side, many, told, k), model.hidden(bits, side, many, told, k));
        } else {
            due(run, "look" + args + ")", x.look(bits, side, many, told), model.look(bits, side, many, told));
        }
    }

    private static int goodTold() {
        for (Set<Integer> part : model.shut(random.nextInt(2))) {
            return part.iterator().next();
        }
        return anyPlace();
    }

    private static void yearCall(int run) {
        if (random.nextInt(3) == 0) {
            int seed = random.nextInt();
            due(run, "seed(" + seed + ")", x.seed(seed) ? 1 : 0, seed >= 0 ? 1 : 0);
            if (seed >= 0) {
                model.seed = seed;
            }
        } else if (random.nextInt(3) == 0) {
            int n = random.nextInt(10) == 0 ? 95 + random.nextInt(10) : any(9);
            due(run, "year(" + n + ")", x.year(n), model.year(n));
        }
    }

    private static void imageCall(int run) {
        image = model.image();
        due(run, "image()", x.image(), image.size());
    }

    private static void checkAll(int run) {
        int[] has = {model.wide, model.high, model.reach.length, ruleCount, model.day,
            model.places() - Model.count(model.owner, -1), model.owed.size(), model.owedPlaces(), model.past.size(), -1};
        for (int what = 0; what < has.length; what++) {
            due(run, "has(" + what + ")", x.has(what), has[what]);
        }
        for (int k = -1; k <= 5; k++) {
            for (int what = -1; what <= 4; what++) {
                due(run, "kind(" + k + ", " + what + ")", x.kind(k, what), model.kindAsked(k, what));
            }
        }
        for (int p = -1; p <= model.places(); p++) {
            for (int what = -1; what <= 8; what++) {
                due(run, "place(" + p + ", " + what + ")", x.place(p, what), model.place(p, what));
            }
        }
        for (int side = -1; side <= 2; side++) {
            for (int what = -1; what <= 7; what++) {
                due(run, "side(" + side + ", " + what + ")", x.side(side, what), model.side(side, what));
            }
        }
        List<Integer> octets = new ArrayList<>(image);
        octets.add(-1);
        for (int k = 0; k < octets.size(); k++) {
            due(run, "octet(" + k + ")", x.octet(k), octets.get(k));
        }
    }
}
