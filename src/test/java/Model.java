import java.util.ArrayDeque;
import java.util.ArrayList;
import java.util.Deque;
import java.util.HashSet;
import java.util.List;
import java.util.Set;
import java.util.TreeSet;

/** The document's terms II and III once more, as plainly and slowly as can be, to hold the program against. */
final class Model {
    static final int NONE = -1;
    static final int NOTHING = -1000000000;

    int wide;
    int high;
    int[] reach = new int[0];
    int[] marks = new int[0];
    int[] kind;
    int[] owner;
    int[] land;
    int[] worth;
    int[] changes;
    int day = 0;
    long seed = 1;
    Set<Set<Integer>> owed = new HashSet<>();
    Deque<Model> past = new ArrayDeque<>();

    Model(int wide, int high) {
        this.wide = wide;
        this.high = high;
        kind = new int[places()];
        owner = new int[places()];
        land = new int[places()];
        worth = new int[places()];
        changes = new int[places()];
        java.util.Arrays.fill(kind, NONE);
        java.util.Arrays.fill(owner, NONE);
        java.util.Arrays.fill(land, NONE);
    }

    int places() {
        return wide * high;
    }

    Model copy() {
        Model m = new Model(wide, high);
        m.reach = reach;
        m.marks = marks;
        m.kind = kind.clone();
        m.owner = owner.clone();
        m.land = land.clone();
        m.worth = worth;
        m.changes = changes.clone();
        m.day = day;
        m.owed = new HashSet<>(owed);
        return m;
    }

    boolean line(int a, int b) {
        if (a == b || owner[a] == NONE || owner[a] != owner[b]) {
            return false;
        }
        if ((marks[kind[a]] & 4) != 0 || (marks[kind[b]] & 4) != 0) {
            return false;
        }
        int dx = b % wide - a % wide;
        int dy = b / wide - a / wide;
        if (dx != 0 && dy != 0 && Math.abs(dx) != Math.abs(dy)) {
            return false;
        }
        int steps = Math.max(Math.abs(dx), Math.abs(dy));
        if (steps > reach[kind[a]] || steps > reach[kind[b]]) {
            return false;
        }
        if ((marks[kind[a]] & 1) != 0 || (marks[kind[b]] & 1) != 0) {
            return true;
        }
        for (int p : between(a, b)) {
            if (owner[p] != NONE && (marks[kind[p]] & 2) == 0) {
                return false;
            }
        }
        return true;
    }

    List<Integer> between(int a, int b) {
        int sx = Integer.signum(b % wide - a % wide);
        int sy = Integer.signum(b / wide - a / wide);
        List<Integer> list = new ArrayList<>();
        int x = a % wide + sx;
        int y = a / wide + sy;
        while (y * wide + x != b) {
            list.add(y * wide + x);
            x += sx;
            y += sy;
        }
        return list;
    }

    int lines(int side) {
        int many = 0;
        for (int a = 0; a < places(); a++) {
            for (int b = a + 1; b < places(); b++) {
                if (owner[a] == side && line(a, b)) {
                    many++;
                }
            }
        }
        return many;
    }

    Set<Integer> edge(int side) {
        Set<Integer> edge = new TreeSet<>();
        for (int a = 0; a < places(); a++) {
            if (owner[a] != side) {
                continue;
            }
            edge.add(a);
            for (int b = a + 1; b < places(); b++) {
                if (line(a, b)) {
                    edge.addAll(between(a, b));
                }
            }
        }
        return edge;
    }

    Set<Set<Integer>> shut(int side) {
        Set<Integer> edge = edge(side);
        Set<Integer> seen = new HashSet<>(edge);
        Set<Set<Integer>> parts = new HashSet<>();
        for (int p = 0; p < places(); p++) {
            if (!seen.contains(p)) {
                Set<Integer> part = new TreeSet<>();
                fill(p, edge, part);
                seen.addAll(part);
                if (part.stream().noneMatch(this::atSide)) {
                    parts.add(part);
                }
            }
        }
        return parts;
    }

    private boolean atSide(int p) {
        return p % wide == 0 || p % wide == wide - 1 || p / wide == 0 || p / wide == high - 1;
    }

    private void fill(int p, Set<Integer> edge, Set<Integer> part) {
        if (edge.contains(p) || !part.add(p)) {
            return;
        }
        if (p % wide > 0) {
            fill(p - 1, edge, part);
        }
        if (p % wide < wide - 1) {
            fill(p + 1, edge, part);
        }
        if (p / wide > 0) {
            fill(p - wide, edge, part);
        }
        if (p / wide < high - 1) {
            fill(p + wide, edge, part);
        }
    }

    boolean can(int k, int p) {
        return day < 200 && k >= 0 && k < reach.length && p >= 0 && p < places() && owner[p] == NONE;
    }

    /** A DAY, as the document tells it. */
    void go(int k, int p) {
        int side = day % 2;
        Set<Set<Integer>> before = shut(side);
        for (Set<Integer> part : owed) {
            if (!part.contains(p)) {
                for (int q : part) {
                    if (land[q] != 1 - side) {
                        land[q] = 1 - side;
                        changes[q]++;
                    }
                }
            }
        }
        owed = new HashSet<>();
        if (p != NONE) {
            kind[p] = k;
            owner[p] = side;
        }
        for (Set<Integer> part : shut(side)) {
            if (!before.contains(part) && part.stream().anyMatch(q -> land[q] != side)) {
                owed.add(part);
            }
        }
        day++;
    }

    int owedPlaces() {
        return owed.stream().mapToInt(Set::size).sum();
    }

    int set(int k, int p) {
        if (day >= 200 || p != NONE && !can(k, p)) {
            return NONE;
        }
        past.addLast(copy());
        if (past.size() > 40) {
            past.removeFirst();
        }
        go(k, p);
        return owedPlaces();
    }

    boolean undo() {
        if (past.isEmpty()) {
            return false;
        }
        Model then = past.removeLast();
        kind = then.kind;
        owner = then.owner;
        land = then.land;
        changes = then.changes;
        day = then.day;
        owed = then.owed;
        return true;
    }

    int threat(int k, int p, int what) {
        if (!can(k, p) || what < 0 || what > 2) {
            return NONE;
        }
        Model m = copy();
        m.go(k, p);
        if (what == 2) {
            return (int) owed.stream().filter(part -> part.contains(p)).count();
        }
        return what == 0 ? m.owedPlaces() : m.owed.size();
    }

    int answer(int k) {
        List<Integer> list = new ArrayList<>();
        for (int p = 0; p < places(); p++) {
            int q = p;
            if (!owed.isEmpty() && owner[p] == NONE && owed.stream().allMatch(part -> part.contains(q))) {
                list.add(p);
            }
        }
        return k == NONE ? list.size() : k >= 0 && k < list.size() ? list.get(k) : NONE;
    }

    int fork(int k) {
        for (int p = 0; p < places(); p++) {
            if (threat(k, p, 1) >= 2) {
                return p;
            }
        }
        return NONE;
    }

    int lineAsked(int a, int b) {
        if (a < 0 || b < 0 || a >= places() || b >= places() || a == b || owner[a] == NONE || owner[a] != owner[b]) {
            return NONE;
        }
        return line(a, b) ? 1 : 0;
    }

    int worthOf(int side) {
        int sum = 0;
        for (int p = 0; p < places(); p++) {
            sum += land[p] == side ? worth[p] : 0;
        }
        return sum;
    }

    int balance(int side) {
        Model m = copy();
        for (Set<Integer> part : owed) {
            for (int p : part) {
                m.land[p] = 1 - day % 2;
            }
        }
        return m.worthOf(side) - m.worthOf(1 - side);
    }

    /** VALUE for a side, and the place that is set first: all plays, with no branch left out. */
    int[] best(int n, int side) {
        if (n == 0) {
            return new int[] {balance(side), NONE};
        }
        int[] best = null;
        for (int i = 0; i <= places(); i++) {
            int p = i == places() ? NONE : i;
            if (p == NONE || owner[p] == NONE) {
                Model m = copy();
                m.go(0, p);
                int value = m.best(n - 1, side)[0];
                if (best == null || (day % 2 == side ? value > best[0] : value < best[0])) {
                    best = new int[] {value, p};
                }
            }
        }
        return best;
    }

    boolean canPlay(int n) {
        return n >= 1 && n <= 3 && (n < 3 || places() <= 20) && reach.length > 0 && day + n <= 200;
    }

    int play(int n, int what) {
        return !canPlay(n) || what < 0 || what > 1 ? NOTHING : best(n, day % 2)[what];
    }

    int thumb(int rule, int n, int what) {
        if (!canPlay(n) || rule < 0 || rule > 2 || what < 0 || what > 1) {
            return NOTHING;
        }
        int pick = NONE;
        int most = 0;
        for (int p = 0; p < places(); p++) {
            if (owner[p] == NONE) {
                Model m = copy();
                m.go(0, p);
                int gain = rule == 0 ? threat(0, p, 2) : rule == 1 ? m.owedPlaces()
                    : m.edge(day % 2).size() - edge(day % 2).size();
                if (gain > most) {
                    most = gain;
                    pick = p;
                }
            }
        }
        if (what == 0) {
            return pick;
        }
        Model m = copy();
        m.go(0, pick);
        return best(n, day % 2)[0] - m.best(n - 1, day % 2)[0];
    }

    int truce(int k) {
        for (int side = 0; side < 2; side++) {
            for (int c = 0; c < reach.length; c++) {
                for (int p = 0; p < places(); p++) {
                    if (owner[p] == NONE && breaks(side, c, p)) {
                        return k == NONE ? 0 : k == 0 ? side : k == 1 ? c : k == 2 ? p : NONE;
                    }
                }
            }
        }
        return k == NONE ? 1 : NONE;
    }

    private boolean breaks(int side, int c, int p) {
        Model m = copy();
        if (side != day % 2) {
            m.day++;
            m.owed.clear();
        }
        m.go(c, p);
        return !m.owed.isEmpty();
    }

    int rows() {
        int red = 0;
        int blue = 0;
        for (int p = 0; p < places(); p++) {
            red += owner[p] == 0 ? 1 : 0;
            blue += owner[p] == 1 ? 1 : 0;
        }
        if (red + blue < 1 || red + blue > 8 || red != blue && red != blue + 1) {
            return NONE;
        }
        Model m = new Model(wide, high);
        m.reach = reach;
        m.marks = marks;
        return m.rowsTo(this, red + blue);
    }

    private int rowsTo(Model end, int left) {
        if (left == 0) {
            return java.util.Arrays.equals(land, end.land) ? 1 : 0;
        }
        int many = 0;
        for (int p = 0; p < places(); p++) {
            if (end.owner[p] == day % 2 && owner[p] == NONE) {
                Model m = copy();
                m.go(end.kind[p], p);
                many += m.rowsTo(end, left - 1);
            }
        }
        return many;
    }

    /** All ways, each a set of places; null when something can't be. */
    List<Set<Integer>> ways(long bits, int side, int many, int told) {
        if (reach.length == 0 || side < 0 || side > 1 || many < 1 || many > 3 || told < 0 || told >= places()) {
            return null;
        }
        List<Integer> free = new ArrayList<>();
        for (int b = 0; b < 64; b++) {
            if ((bits >>> b & 1) == 1) {
                if (b >= places()) {
                    return null;
                }
                if (owner[b] == NONE) {
                    free.add(b);
                }
            }
        }
        if (free.size() > 12) {
            return null;
        }
        List<Set<Integer>> ways = new ArrayList<>();
        for (int choice = 0; choice < 1 << free.size(); choice++) {
            if (Integer.bitCount(choice) == many) {
                Model m = copy();
                Set<Integer> way = new TreeSet<>();
                for (int i = 0; i < free.size(); i++) {
                    if ((choice >> i & 1) == 1) {
                        way.add(free.get(i));
                        m.owner[free.get(i)] = side;
                        m.kind[free.get(i)] = 0;
                    }
                }
                if (m.shut(side).stream().anyMatch(part -> part.contains(told))) {
                    ways.add(way);
                }
            }
        }
        return ways;
    }

    int hidden(long bits, int side, int many, int told, int k) {
        List<Set<Integer>> ways = ways(bits, side, many, told);
        if (ways == null || k < NONE || k >= places()) {
            return NONE;
        }
        if (k == NONE) {
            return ways.size();
        }
        if (ways.isEmpty()) {
            return NONE;
        }
        return (int) (1000 * ways.stream().filter(way -> way.contains(k)).count() / ways.size());
    }

    int look(long bits, int side, int many, int told) {
        List<Set<Integer>> ways = ways(bits, side, many, told);
        if (ways == null || ways.isEmpty()) {
            return NONE;
        }
        int best = 0;
        for (int p = 1; p < places(); p++) {
            if (hidden(bits, side, many, told, p) > hidden(bits, side, many, told, best)) {
                best = p;
            }
        }
        return best;
    }

    int year(int n) {
        if (reach.length == 0 || n < 1 || n > 100 || day + n > 200) {
            return NONE;
        }
        int stones = 0;
        for (int i = 0; i < n; i++) {
            seed = (1103515245L * seed + 12345L) % (1L << 31);
            int p = (int) (seed / 64 % places());
            if (owner[p] == NONE) {
                set(0, p);
                stones++;
            } else {
                set(0, NONE);
            }
        }
        return stones;
    }

    List<Integer> image() {
        List<Integer> list = new ArrayList<>();
        list.add(day);
        for (int p = 0; p < places(); p++) {
            list.add((owner[p] == NONE ? 0 : 1 + 2 * kind[p] + owner[p]) * 3 + land[p] + 1);
        }
        for (int p = 0; p < places(); p++) {
            list.add(place(p, 6));
        }
        int c = 71;
        for (int octet : list) {
            c = (5 * c + octet) % 239;
        }
        list.add(c);
        return list;
    }

    int place(int p, int what) {
        if (p < 0 || p >= places()) {
            return NONE;
        }
        switch (what) {
            case 0: return owner[p];
            case 1: return kind[p];
            case 2: return land[p];
            case 3: return worth[p];
            case 4: return (edge(0).contains(p) ? 1 : 0) + (edge(1).contains(p) ? 2 : 0);
            case 5: return (isShut(0, p) ? 1 : 0) + (isShut(1, p) ? 2 : 0);
            case 6: return owed.stream().anyMatch(part -> part.contains(p)) ? 1 : 0;
            case 7: return changes[p];
            default: return NONE;
        }
    }

    private boolean isShut(int side, int p) {
        return shut(side).stream().anyMatch(part -> part.contains(p));
    }

    int side(int side, int what) {
        if (side < 0 || side > 1) {
            return NONE;
        }
        switch (what) {
            case 0: return count(owner, side);
            case 1: return lines(side);
            case 2: return edge(side).size();
            case 3: return shut(side).stream().mapToInt(Set::size).sum();
            case 4: return shut(side).size();
            case 5: return count(land, side);
            case 6: return worthOf(side);
            default: return NONE;
        }
    }

    static int count(int[] row, int value) {
        int many = 0;
        for (int x : row) {
            many += x == value ? 1 : 0;
        }
        return many;
    }

    int kindAsked(int k, int what) {
        if (k < 0 || k >= reach.length || what < 0 || what > 3) {
            return NONE;
        }
        if (what < 2) {
            return what == 0 ? reach[k] : marks[k];
        }
        int many = 0;
        for (int p = 0; p < places(); p++) {
            many += owner[p] == what - 2 && kind[p] == k ? 1 : 0;
        }
        return many;
    }
}
