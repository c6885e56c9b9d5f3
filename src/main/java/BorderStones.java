import java.util.Arrays;

/** A border field on which two sides set one stone a day; ../shared/DOC.md says what each call does. */
public final class BorderStones {
    public static final int NONE = -1;
    public static final int NOTHING = -1000000000;

    private static final int TAPE_MOST = 1600;
    private static final int STATEMENTS_MOST = 80;
    private static final int PLACES_MOST = 36;
    private static final int KINDS_MOST = 5;
    private static final int NAME_MOST = 6;
    private static final int STONES_MOST = 20;
    private static final int RULES_MOST = 6;
    private static final int SIDES = 2;
    private static final int LAST_DAY = 200;
    private static final int YEAR_MOST = 100;
    private static final int DEEP_MOST = 3;
    private static final int DEEP_PLACES = 20;
    private static final int IMAGE_MOST = 2 * PLACES_MOST + 2;

    private final byte[] tape;
    private int tapeLength;
    private final Border border;
    private final Border draft;
    private final Reader reader;
    private int fault;
    private int faultPlace;
    private final Ground ground;
    private final Field field;
    private final Field trial;
    private final Plays plays;
    private final Rain rain;
    private final Orders orders;
    private final Chronicle chronicle;
    private int seed;
    private final int[] image;
    private int imageLength;

    public BorderStones() {
        tape = new byte[TAPE_MOST];
        border = new Border();
        draft = new Border();
        reader = new Reader(tape);
        fault = 0;
        faultPlace = NONE;
        ground = new Ground();
        field = new Field(border, ground);
        trial = new Field(border, ground);
        plays = new Plays(trial);
        rain = new Rain(trial);
        orders = new Orders(trial);
        chronicle = new Chronicle();
        seed = 1;
        image = new int[IMAGE_MOST];
    }

    // ---- the text

    public int feed(int a, int b, int c, int d, int e) {
        if (tapeLength + 20 > TAPE_MOST) {
            return NONE;
        }
        append(a);
        append(b);
        append(c);
        append(d);
        append(e);
        return tapeLength;
    }

    private void append(int number) {
        for (int shift = 24; shift >= 0; shift -= 8) {
            if (tapeLength < TAPE_MOST) {
                tape[tapeLength] = (byte) (number >>> shift);
                tapeLength++;
            }
        }
    }

    public boolean end(int n) {
        if (n < 0 || n > tapeLength) {
            return false;
        }
        tapeLength = n;
        return true;
    }

    public int border() {
        boolean read = reader.read(tapeLength, draft);
        tapeLength = 0;
        fault = reader.fault;
        faultPlace = reader.faultPlace;
        if (!read) {
            return NONE;
        }
        border.copy(draft);
        ground.lay(border.wide, border.high);
        field.begin();
        chronicle.clear();
        return border.statements;
    }

    public int fault(int what) {
        switch (what) {
            case 0: return fault;
            case 1: return faultPlace;
            default: return NONE;
        }
    }

    // ---- what there is

    public int has(int what) {
        switch (what) {
            case 0: return border.wide;
            case 1: return border.high;
            case 2: return border.kinds;
            case 3: return border.rules;
            case 4: return field.day;
            case 5: return Long.bitCount(field.taken());
            case 6: return ground.countParts(field.owed);
            case 7: return Long.bitCount(field.owed);
            case 8: return chronicle.many;
            default: return NONE;
        }
    }

    public int letter(int kind, int k) {
        if (!isKind(kind) || k < 0 || k >= NAME_MOST) {
            return NONE;
        }
        return border.letters[kind * NAME_MOST + k];
    }

    public int kind(int kind, int what) {
        if (!isKind(kind)) {
            return NONE;
        }
        switch (what) {
            case 0: return border.reach[kind];
            case 1: return border.marks[kind];
            case 2: return field.countKind(0, kind);
            case 3: return field.countKind(1, kind);
            default: return NONE;
        }
    }

    public int place(int place, int what) {
        if (!isPlace(place)) {
            return NONE;
        }
        switch (what) {
            case 0: return whose(field.stones, place);
            case 1: return field.isTaken(place) ? field.kindAt[place] : NONE;
            case 2: return whose(field.land, place);
            case 3: return border.worth[place];
            case 4: return bitAt(field.edgeOf(0), place) + 2 * bitAt(field.edgeOf(1), place);
            case 5: return bitAt(field.shutBy(0), place) + 2 * bitAt(field.shutBy(1), place);
            case 6: return bitAt(field.owed, place);
            case 7: return chronicle.changes[place];
            default: return NONE;
        }
    }

    public int side(int side, int what) {
        if (!isSide(side)) {
            return NONE;
        }
        switch (what) {
            case 0: return Long.bitCount(field.stones[side]);
            case 1: return field.linesOf(side);
            case 2: return Long.bitCount(field.edgeOf(side));
            case 3: return Long.bitCount(field.shutBy(side));
            case 4: return ground.countParts(field.shutBy(side));
            case 5: return Long.bitCount(field.land[side]);
            case 6: return border.worthOf(field.land[side]);
            default: return NONE;
        }
    }

    private boolean isKind(int kind) {
        return kind >= 0 && kind < border.kinds;
    }

    private boolean isPlace(int place) {
        return place >= 0 && place < ground.places;
    }

    private static boolean isSide(int side) {
        return side >= 0 && side < SIDES;
    }

    private static int bitAt(long bits, int place) {
        return (int) (bits >>> place & 1L);
    }

    /** Which side's bits hold a place; NONE if neither's do. */
    private static int whose(long[] bits, int place) {
        if (bitAt(bits[0], place) == 1) {
            return 0;
        }
        return bitAt(bits[1], place) == 1 ? 1 : NONE;
    }

    // ---- days

    public int set(int kind, int place) {
        if (!canPass() || place != NONE && !canSet(kind, place)) {
            return NONE;
        }
        live(kind, place);
        return Long.bitCount(field.owed);
    }

    public boolean undo() {
        return chronicle.takeBack(field);
    }

    private boolean canPass() {
        return ground.places > 0 && field.day < LAST_DAY;
    }

    private boolean canSet(int kind, int place) {
        return canPass() && isKind(kind) && isPlace(place) && !field.isTaken(place);
    }

    /** A DAY that is kept, so that it can be undone; all else happens on the trial field. */
    private void live(int kind, int place) {
        chronicle.keep(field, place);
        field.go(kind, place, field.shutBy(field.mover()));
        chronicle.noteChanges(field);
    }

    // ---- what a stone does

    public int threat(int kind, int place, int what) {
        if (!canSet(kind, place)) {
            return NONE;
        }
        trial.load(field);
        switch (what) {
            case 0: return Long.bitCount(trial.owedBy(kind, place));
            case 1: return ground.countParts(trial.owedBy(kind, place));
            case 2: return bitAt(field.owed, place);
            default: return NONE;
        }
    }

    public int answer(int k) {
        long places = answers();
        if (k == NONE) {
            return Long.bitCount(places);
        }
        int seen = 0;
        for (int place = 0; place < ground.places; place++) {
            if (bitAt(places, place) == 1) {
                if (seen == k) {
                    return place;
                }
                seen++;
            }
        }
        return NONE;
    }

    /** OWED parts never overlap (one side's, of one DAY), so that one STONE answers one part at most. */
    private long answers() {
        return ground.countParts(field.owed) == 1 ? field.owed & ~field.taken() : 0L;
    }

    public int fork(int kind) {
        if (!isKind(kind)) {
            return NONE;
        }
        trial.load(field);
        for (int place = 0; place < ground.places; place++) {
            if (canSet(kind, place) && ground.countParts(trial.owedBy(kind, place)) >= 2) {
                return place;
            }
        }
        return NONE;
    }

    public int line(int first, int second) {
        if (!isPlace(first) || !isPlace(second) || first == second) {
            return NONE;
        }
        int owner = whose(field.stones, first);
        if (owner == NONE || owner != whose(field.stones, second)) {
            return NONE;
        }
        return field.isLine(owner, Math.min(first, second), Math.max(first, second)) ? 1 : 0;
    }

    // ---- plays

    public int play(int n, int what) {
        if (!canPlay(n) || what < 0 || what > 1) {
            return NOTHING;
        }
        trial.load(field);
        int value = plays.valueOfPlay(n);
        return what == 0 ? value : plays.chosen;
    }

    public int thumb(int rule, int n, int what) {
        if (!canPlay(n) || rule < 0 || rule > 2 || what < 0 || what > 1) {
            return NOTHING;
        }
        trial.load(field);
        int place = plays.byThumb(rule);
        return what == 0 ? place : plays.valueOfPlay(n) - plays.valueBehind(place, n);
    }

    private boolean canPlay(int n) {
        if (n < 1 || n > DEEP_MOST || n == DEEP_MOST && ground.places > DEEP_PLACES) {
            return false;
        }
        return border.kinds > 0 && field.day + n <= LAST_DAY;
    }

    // ---- truces, rows, what is hidden

    public int truce(int k) {
        if (ground.places == 0) {
            return NONE;
        }
        int breaker = firstBreaker();
        if (k == NONE) {
            return breaker == NONE ? 1 : 0;
        }
        if (breaker == NONE) {
            return NONE;
        }
        switch (k) {
            case 0: return breaker / (KINDS_MOST * PLACES_MOST);
            case 1: return breaker / PLACES_MOST % KINDS_MOST;
            case 2: return breaker % PLACES_MOST;
            default: return NONE;
        }
    }

    /** Side, KIND and place of the first STONE that breaks the truce, as one number; NONE if none does. */
    private int firstBreaker() {
        for (int side = 0; side < SIDES; side++) {
            trial.load(field);
            if (side != field.mover()) {
                trial.skipDay();
            }
            int stone = firstThreat();
            if (stone != NONE) {
                return side * KINDS_MOST * PLACES_MOST + stone;
            }
        }
        return NONE;
    }

    /** KIND and place of the first STONE by which the trial field's side is owed something; NONE without. */
    private int firstThreat() {
        for (int kind = 0; kind < border.kinds; kind++) {
            for (int place = 0; place < ground.places; place++) {
                if (!trial.isTaken(place) && trial.owedBy(kind, place) != 0) {
                    return kind * PLACES_MOST + place;
                }
            }
        }
        return NONE;
    }

    public int rows() {
        return orders.count(field);
    }

    public int hidden(long places, int side, int many, int told, int k) {
        if (!canHide(places, side, many, told) || k != NONE && !isPlace(k)) {
            return NONE;
        }
        trial.load(field);
        int ways = rain.count(places, side, many, told);
        return k == NONE ? ways : rain.odds(k);
    }

    public int look(long places, int side, int many, int told) {
        if (!canHide(places, side, many, told)) {
            return NONE;
        }
        trial.load(field);
        rain.count(places, side, many, told);
        int best = NONE;
        for (int place = 0; place < ground.places; place++) {
            if (rain.odds(place) > (best == NONE ? NONE : rain.odds(best))) {
                best = place;
            }
        }
        return best;
    }

    private boolean canHide(long places, int side, int many, int told) {
        if (border.kinds == 0 || !isSide(side) || !isPlace(told) || many < 1 || many > Rain.STONES_MOST) {
            return false;
        }
        return (places & ~ground.all) == 0 && Long.bitCount(places & ~field.taken()) <= Rain.FREE_MOST;
    }

    // ---- years

    public boolean seed(int seed) {
        if (seed < 0) {
            return false;
        }
        this.seed = seed;
        return true;
    }

    public int year(int n) {
        if (border.kinds == 0 || n < 1 || n > YEAR_MOST || field.day + n > LAST_DAY) {
            return NONE;
        }
        int stones = 0;
        for (int i = 0; i < n; i++) {
            int place = draw(ground.places);
            boolean free = canSet(0, place);
            live(0, free ? place : NONE);
            stones += free ? 1 : 0;
        }
        return stones;
    }

    private int draw(int m) {
        seed = (int) (1103515245L * seed + 12345L & 0x7fffffffL);
        return m > 0 ? seed / 64 % m : 0;
    }

    // ---- images

    public int image() {
        imageLength = 0;
        write(field.day);
        for (int place = 0; place < ground.places; place++) {
            int owner = whose(field.stones, place);
            int stone = owner == NONE ? 0 : 1 + 2 * field.kindAt[place] + owner;
            write(stone * 3 + whose(field.land, place) + 1);
        }
        for (int place = 0; place < ground.places; place++) {
            write(bitAt(field.owed, place));
        }
        int check = 71;
        for (int k = 0; k < imageLength; k++) {
            check = (5 * check + image[k]) % 239;
        }
        write(check);
        return imageLength;
    }

    private void write(int octet) {
        if (imageLength < IMAGE_MOST) {
            image[imageLength] = octet;
            imageLength++;
        }
    }

    public int octet(int k) {
        return k >= 0 && k < imageLength ? image[k] : NONE;
    }

    /** What a text tells: the field's size, the KINDS, the first STONES and LAND, what places are worth. */
    private static final class Border {
        private int statements;
        private int wide;
        private int high;
        private int kinds;
        private int rules;
        private final int[] reach = new int[KINDS_MOST];
        private final int[] marks = new int[KINDS_MOST];
        private final int[] letters = new int[KINDS_MOST * NAME_MOST];
        private final long[] stones = new long[SIDES];
        private final int[] kindAt = new int[PLACES_MOST];
        private final long[] land = new long[SIDES];
        private final int[] worth = new int[PLACES_MOST];

        private void clear() {
            statements = 0;
            wide = 0;
            high = 0;
            kinds = 0;
            rules = 0;
            Arrays.fill(letters, 0);
            Arrays.fill(stones, 0L);
            Arrays.fill(land, 0L);
        }

        private void copy(Border from) {
            statements = from.statements;
            wide = from.wide;
            high = from.high;
            kinds = from.kinds;
            rules = from.rules;
            System.arraycopy(from.reach, 0, reach, 0, KINDS_MOST);
            System.arraycopy(from.marks, 0, marks, 0, KINDS_MOST);
            System.arraycopy(from.letters, 0, letters, 0, KINDS_MOST * NAME_MOST);
            System.arraycopy(from.stones, 0, stones, 0, SIDES);
            System.arraycopy(from.kindAt, 0, kindAt, 0, PLACES_MOST);
            System.arraycopy(from.land, 0, land, 0, SIDES);
            System.arraycopy(from.worth, 0, worth, 0, PLACES_MOST);
        }

        private boolean hasStone(int place) {
            return bitAt(stones[0] | stones[1], place) == 1;
        }

        private int countStones() {
            return Long.bitCount(stones[0] | stones[1]);
        }

        private int worthOf(long places) {
            int sum = 0;
            for (int place = 0; place < PLACES_MOST; place++) {
                if (bitAt(places, place) == 1) {
                    sum += worth[place];
                }
            }
            return sum;
        }
    }

    /** The text, cut into words, numbers and signs, one at a time. */
    private static final class Tokens {
        private static final int END = 0;
        private static final int WORD = 1;
        private static final int NUMBER = 2;
        private static final int SIGN = 3;
        /** A word or number that a blank should part from the one ahead of it: nothing goes on with it. */
        private static final int STUCK = 4;

        /** Each with a blank behind it, in the order of the numbers below. */
        private static final String OWN_WORDS =
            "field kind reach high sunk child stone red blue at land worth when or and not all across down edge min max ";
        private static final int FIELD = 0;
        private static final int KIND = 1;
        private static final int REACH = 2;
        private static final int HIGH = 3;
        private static final int CHILD = 5;
        private static final int STONE = 6;
        private static final int RED = 7;
        private static final int BLUE = 8;
        private static final int AT = 9;
        private static final int LAND = 10;
        private static final int WORTH = 11;
        private static final int WHEN = 12;
        private static final int OR = 13;
        private static final int AND = 14;
        private static final int NOT = 15;
        private static final int ALL = 16;
        private static final int ACROSS = 17;
        private static final int DOWN = 18;
        private static final int EDGE = 19;
        private static final int MIN = 20;
        private static final int MAX = 21;

        private final byte[] text;
        private int length;
        private int start;
        private int behind;
        private int sort;
        /** Which OWN WORD a word is, NONE for others. */
        private int own;

        private Tokens(byte[] text) {
            this.text = text;
        }

        private void open(int length) {
            this.length = Math.min(length, text.length);
            behind = 0;
            sort = END;
            next();
        }

        private void next() {
            boolean joined = sort == WORD || sort == NUMBER;
            int from = behind;
            while (behind < length && isBlank(byteAt(behind))) {
                behind++;
            }
            start = behind;
            boolean stuck = joined && start == from;
            own = NONE;
            if (start >= length) {
                sort = END;
            } else if (isLetter(byteAt(start))) {
                while (behind < length && isLetter(byteAt(behind))) {
                    behind++;
                }
                own = ownWord();
                sort = stuck ? STUCK : WORD;
            } else if (isDigit(byteAt(start))) {
                while (behind < length && isDigit(byteAt(behind))) {
                    behind++;
                }
                sort = stuck ? STUCK : NUMBER;
            } else {
                behind = start + 1;
                sort = SIGN;
            }
        }

        /** Which OWN WORD the token is: matched tells how far it is the one that is looked at, NONE if it is not. */
        private int ownWord() {
            int word = 0;
            int matched = 0;
            for (int i = 0; i < OWN_WORDS.length(); i++) {
                char sign = OWN_WORDS.charAt(i);
                int at = start + matched;
                if (sign != ' ') {
                    matched = matched != NONE && at < length && text[at] == sign ? matched + 1 : NONE;
                } else if (at == behind) {
                    return word;
                } else {
                    word++;
                    matched = 0;
                }
            }
            return NONE;
        }

        private int many() {
            return behind - start;
        }

        private int byteAt(int at) {
            return at >= 0 && at < length ? text[at] & 255 : NONE;
        }

        /** The number that the token tells; its digits are few, as the reader has looked. */
        private int number() {
            int value = 0;
            for (int at = start; at < behind; at++) {
                value = value * 10 + byteAt(at) - '0';
            }
            return value;
        }

        private boolean isOwn(int word) {
            return sort == WORD && own == word;
        }

        private boolean isSign(int sign) {
            return sort == SIGN && byteAt(start) == sign;
        }

        private static boolean isBlank(int octet) {
            return octet == 10 || octet == 32;
        }

        private static boolean isLetter(int octet) {
            return octet >= 'a' && octet <= 'z';
        }

        private static boolean isDigit(int octet) {
            return octet >= '0' && octet <= '9';
        }
    }

    /** The RULES, each a row of steps on a stack: first its SUM's, then its TEST's (1 holds, 0 does not). */
    private static final class Formula {
        /** Steps below 0; a step from 0 on is the number to be put on the stack. */
        private static final int ACROSS = -1;
        private static final int DOWN = -2;
        private static final int EDGE = -3;
        private static final int NOT = -4;
        private static final int ADD = -5;
        private static final int TAKE = -6;
        private static final int TIMES = -7;
        private static final int OVER = -8;
        private static final int MIN = -9;
        private static final int MAX = -10;
        private static final int LESS = -11;
        private static final int MORE = -12;
        private static final int SAME = -13;
        private static final int AND = -14;
        private static final int OR = -15;

        private static final int FAR = 1000000;
        private static final int STACK_MOST = 64;

        private final int[] steps = new int[TAPE_MOST];
        private int many;
        private final int[] ends = new int[RULES_MOST];
        private int rules;
        private final int[] stack = new int[STACK_MOST];
        private int height;
        private int across;
        private int down;
        private int edge;

        private void clear() {
            many = 0;
            rules = 0;
        }

        private void add(int step) {
            if (many < TAPE_MOST) {
                steps[many] = step;
                many++;
            }
        }

        private void endRule() {
            if (rules < RULES_MOST) {
                ends[rules] = many;
                rules++;
            }
        }

        /** What all places are worth, row by row. */
        private void price(Border border) {
            for (int place = 0; place < PLACES_MOST && border.wide > 0; place++) {
                across = place % border.wide;
                down = place / border.wide;
                int sideways = Math.min(across, border.wide - 1 - across);
                edge = Math.min(sideways, Math.min(down, border.high - 1 - down));
                border.worth[place] = worthHere();
            }
        }

        private int worthHere() {
            int from = 0;
            for (int rule = 0; rule < rules; rule++) {
                run(from, ends[rule]);
                if (stack[1] == 1) {
                    return Math.max(0, Math.min(99, stack[0]));
                }
                from = ends[rule];
            }
            return rules == 0 ? 1 : 0;
        }

        private void run(int from, int to) {
            height = 0;
            for (int i = from; i < to && i < TAPE_MOST; i++) {
                int step = steps[i];
                if (step >= 0) {
                    push(step);
                } else if (step >= EDGE) {
                    push(step == ACROSS ? across : step == DOWN ? down : edge);
                } else if (step == NOT) {
                    push(1 - pop());
                } else {
                    int right = pop();
                    push(join(step, pop(), right));
                }
            }
        }

        private void push(int value) {
            if (height < STACK_MOST) {
                stack[height] = value;
                height++;
            }
        }

        private int pop() {
            if (height <= 0) {
                return 0;
            }
            height--;
            return stack[height];
        }

        private static int join(int step, int left, int right) {
            switch (step) {
                case ADD: return within((long) left + right);
                case TAKE: return within((long) left - right);
                case TIMES: return within((long) left * right);
                case OVER: return right == 0 ? 0 : Math.floorDiv(left, right);
                case MIN: return Math.min(left, right);
                case MAX: return Math.max(left, right);
                case LESS: return left < right ? 1 : 0;
                case MORE: return left > right ? 1 : 0;
                case SAME: return left == right ? 1 : 0;
                case AND: return left & right;
                case OR: return left | right;
                default: return 0;
            }
        }

        private static int within(long value) {
            return (int) Math.max(-FAR, Math.min(FAR, value));
        }
    }

    /** Reads a text into a border, or tells its first FAULT. Each step answers whether there is none yet. */
    private static final class Reader {
        private static final int UNFIT = 1;
        private static final int NUMBER = 2;
        private static final int NAME = 3;
        private static final int DEEP = 4;
        private static final int MANY = 5;

        private static final int DIGITS_MOST = 4;
        private static final int NUMBER_MOST = 9999;
        private static final int OPEN_MOST = 6;
        private static final int SIZE_LEAST = 3;
        private static final int SIZE_MOST = 7;
        private static final int REACH_MOST = 6;

        private final Tokens tokens;
        private final Formula formula = new Formula();
        private int fault;
        private int faultPlace;
        /** How many ( [ not are open. */
        private int open;
        /** What the latest number, NAME, SIDE, place asked for was, and where. */
        private int number;
        private int numberPlace;
        private int named;
        private int namePlace;
        private int owner;
        private int spot;

        private Reader(byte[] text) {
            tokens = new Tokens(text);
        }

        private boolean read(int length, Border draft) {
            fault = 0;
            faultPlace = NONE;
            open = 0;
            draft.clear();
            formula.clear();
            tokens.open(length);
            if (!readField(draft)) {
                return false;
            }
            draft.statements = 1;
            for (int i = 0; i < STATEMENTS_MOST && tokens.sort != Tokens.END; i++) {
                if (draft.statements >= STATEMENTS_MOST) {
                    return fail(MANY, tokens.start);
                }
                if (!readStatement(draft)) {
                    return false;
                }
                draft.statements++;
            }
            formula.price(draft);
            return true;
        }

        private boolean fail(int kind, int at) {
            fault = kind;
            faultPlace = at;
            return false;
        }

        private boolean readField(Border draft) {
            if (!askWord(Tokens.FIELD) || !askNumber(SIZE_LEAST, SIZE_MOST)) {
                return false;
            }
            draft.wide = number;
            if (!askNumber(SIZE_LEAST, Math.min(SIZE_MOST, PLACES_MOST / Math.max(1, number)))) {
                return false;
            }
            draft.high = number;
            return askSign(';');
        }

        private boolean readStatement(Border draft) {
            if (tokens.isOwn(Tokens.KIND)) {
                return askRoom(draft.kinds, KINDS_MOST) && readKind(draft);
            }
            if (tokens.isOwn(Tokens.STONE)) {
                return askRoom(draft.countStones(), STONES_MOST) && readStone(draft);
            }
            if (tokens.isOwn(Tokens.WORTH)) {
                return askRoom(draft.rules, RULES_MOST) && readWorth(draft);
            }
            return readLand(draft);
        }

        private boolean askRoom(int many, int most) {
            return many < most || fail(MANY, tokens.start);
        }

        private boolean readKind(Border draft) {
            tokens.next();
            int kind = draft.kinds;
            if (!askName(draft)) {
                return false;
            }
            if (named != NONE) {
                return fail(NAME, namePlace);
            }
            if (!askWord(Tokens.REACH) || !askNumber(1, REACH_MOST) || kind >= KINDS_MOST) {
                return false;
            }
            draft.reach[kind] = number;
            draft.marks[kind] = 0;
            for (int i = 0; i < TAPE_MOST && isMark(); i++) {
                int mark = 1 << tokens.own - Tokens.HIGH;
                if ((draft.marks[kind] & mark) != 0) {
                    return fail(UNFIT, tokens.start);
                }
                draft.marks[kind] |= mark;
                tokens.next();
            }
            draft.kinds = kind + 1;
            return askSign(';');
        }

        private boolean isMark() {
            return tokens.sort == Tokens.WORD && tokens.own >= Tokens.HIGH && tokens.own <= Tokens.CHILD;
        }

        private boolean readStone(Border draft) {
            tokens.next();
            if (!askName(draft)) {
                return false;
            }
            if (named == NONE) {
                return fail(NAME, namePlace);
            }
            if (!askOwner() || !askSpot(draft)) {
                return false;
            }
            if (draft.hasStone(spot)) {
                return fail(NUMBER, numberPlace);
            }
            draft.stones[owner] |= 1L << spot;
            draft.kindAt[spot] = named;
            return askSign(';');
        }

        private boolean readLand(Border draft) {
            if (!askWord(Tokens.LAND) || !askOwner() || !askSpot(draft)) {
                return false;
            }
            draft.land[owner] |= 1L << spot;
            draft.land[1 - owner] &= ~(1L << spot);
            return askSign(';');
        }

        private boolean readWorth(Border draft) {
            tokens.next();
            if (!readSum() || !askWord(Tokens.WHEN) || !readTest()) {
                return false;
            }
            formula.endRule();
            draft.rules++;
            return askSign(';');
        }

        private boolean askWord(int word) {
            if (!tokens.isOwn(word)) {
                return fail(UNFIT, tokens.start);
            }
            tokens.next();
            return true;
        }

        private boolean askSign(int sign) {
            if (!tokens.isSign(sign)) {
                return fail(UNFIT, tokens.start);
            }
            tokens.next();
            return true;
        }

        private boolean askNumber(int least, int most) {
            if (tokens.sort != Tokens.NUMBER) {
                return fail(UNFIT, tokens.start);
            }
            if (tokens.many() > DIGITS_MOST) {
                return fail(UNFIT, tokens.start + DIGITS_MOST);
            }
            number = tokens.number();
            numberPlace = tokens.start;
            tokens.next();
            return number >= least && number <= most || fail(NUMBER, numberPlace);
        }

        /** A NAME; its letters stand behind those of all KINDS then, in case that a KIND is given it. */
        private boolean askName(Border draft) {
            if (tokens.sort != Tokens.WORD || tokens.own != NONE) {
                return fail(UNFIT, tokens.start);
            }
            if (tokens.many() > NAME_MOST) {
                return fail(UNFIT, tokens.start + NAME_MOST);
            }
            named = NONE;
            for (int kind = 0; kind < draft.kinds; kind++) {
                if (isNameOf(draft, kind)) {
                    named = kind;
                }
            }
            if (named == NONE && draft.kinds < KINDS_MOST) {
                for (int k = 0; k < NAME_MOST; k++) {
                    draft.letters[draft.kinds * NAME_MOST + k] = letterAt(k);
                }
            }
            namePlace = tokens.start;
            tokens.next();
            return true;
        }

        private boolean isNameOf(Border draft, int kind) {
            for (int k = 0; k < NAME_MOST; k++) {
                if (draft.letters[kind * NAME_MOST + k] != letterAt(k)) {
                    return false;
                }
            }
            return true;
        }

        private int letterAt(int k) {
            return k < tokens.many() ? tokens.byteAt(tokens.start + k) - 'a' + 1 : 0;
        }

        /** A SIDE and the word behind it. */
        private boolean askOwner() {
            if (!tokens.isOwn(Tokens.RED) && !tokens.isOwn(Tokens.BLUE)) {
                return fail(UNFIT, tokens.start);
            }
            owner = tokens.own - Tokens.RED;
            tokens.next();
            return askWord(Tokens.AT);
        }

        private boolean askSpot(Border draft) {
            if (!askNumber(0, draft.wide - 1)) {
                return false;
            }
            int across = number;
            if (!askNumber(0, draft.high - 1)) {
                return false;
            }
            spot = number * draft.wide + across;
            return true;
        }

        private boolean readTest() {
            if (!readBoth()) {
                return false;
            }
            for (int i = 0; i < TAPE_MOST && tokens.isOwn(Tokens.OR); i++) {
                tokens.next();
                if (!readBoth()) {
                    return false;
                }
                formula.add(Formula.OR);
            }
            return true;
        }

        private boolean readBoth() {
            if (!readFact()) {
                return false;
            }
            for (int i = 0; i < TAPE_MOST && tokens.isOwn(Tokens.AND); i++) {
                tokens.next();
                if (!readFact()) {
                    return false;
                }
                formula.add(Formula.AND);
            }
            return true;
        }

        private boolean readFact() {
            if (tokens.isOwn(Tokens.ALL)) {
                tokens.next();
                formula.add(1);
                return true;
            }
            if (tokens.isOwn(Tokens.NOT)) {
                if (!opens() || !readFact()) {
                    return false;
                }
                open--;
                formula.add(Formula.NOT);
                return true;
            }
            if (tokens.isSign('[')) {
                return opens() && readTest() && closes(']');
            }
            if (!readSum()) {
                return false;
            }
            int step = comparison();
            if (step == 0) {
                return fail(UNFIT, tokens.start);
            }
            tokens.next();
            if (!readSum()) {
                return false;
            }
            formula.add(step);
            return true;
        }

        /** The step that the token's SIGN stands for, 0 if it is none. */
        private int comparison() {
            if (tokens.isSign('<')) {
                return Formula.LESS;
            }
            if (tokens.isSign('>')) {
                return Formula.MORE;
            }
            return tokens.isSign('=') ? Formula.SAME : 0;
        }

        private boolean opens() {
            if (open >= OPEN_MOST) {
                return fail(DEEP, tokens.start);
            }
            open++;
            tokens.next();
            return true;
        }

        private boolean closes(int sign) {
            if (!tokens.isSign(sign)) {
                return fail(UNFIT, tokens.start);
            }
            open--;
            tokens.next();
            return true;
        }

        private boolean readSum() {
            if (!readProduct()) {
                return false;
            }
            for (int i = 0; i < TAPE_MOST && (tokens.isSign('+') || tokens.isSign('-')); i++) {
                int step = tokens.isSign('+') ? Formula.ADD : Formula.TAKE;
                tokens.next();
                if (!readProduct()) {
                    return false;
                }
                formula.add(step);
            }
            return true;
        }

        private boolean readProduct() {
            if (!readPart()) {
                return false;
            }
            for (int i = 0; i < TAPE_MOST && (tokens.isSign('*') || tokens.isSign('/')); i++) {
                int step = tokens.isSign('*') ? Formula.TIMES : Formula.OVER;
                tokens.next();
                if (!readPart()) {
                    return false;
                }
                formula.add(step);
            }
            return true;
        }

        private boolean readPart() {
            if (tokens.isSign('(')) {
                return opens() && readSum() && closes(')');
            }
            if (tokens.isOwn(Tokens.MIN)) {
                return readPair(Formula.MIN);
            }
            if (tokens.isOwn(Tokens.MAX)) {
                return readPair(Formula.MAX);
            }
            if (tokens.isOwn(Tokens.ACROSS) || tokens.isOwn(Tokens.DOWN) || tokens.isOwn(Tokens.EDGE)) {
                formula.add(Formula.ACROSS - (tokens.own - Tokens.ACROSS));
                tokens.next();
                return true;
            }
            if (!askNumber(0, NUMBER_MOST)) {
                return false;
            }
            formula.add(number);
            return true;
        }

        private boolean readPair(int step) {
            tokens.next();
            if (!tokens.isSign('(')) {
                return fail(UNFIT, tokens.start);
            }
            if (!opens() || !readSum() || !askSign(',') || !readSum() || !closes(')')) {
                return false;
            }
            formula.add(step);
            return true;
        }
    }

    /** The field's shape; a set of places is the bits of a long. */
    private static final class Ground {
        /** Rightward, down, and the two slants down: each pair of places in a line is met once, from its first. */
        private static final int WAYS = 4;

        private int places;
        private int wide;
        private long all;
        private long rim;
        private long notLeft;
        private long notRight;
        private final int[] neighbours = new int[WAYS * PLACES_MOST];

        private void lay(int wide, int high) {
            this.wide = wide;
            places = wide * high;
            all = 0;
            rim = 0;
            notLeft = 0;
            notRight = 0;
            for (int place = 0; place < places && place < PLACES_MOST && wide > 0; place++) {
                int across = place % wide;
                int down = place / wide;
                long bit = 1L << place;
                boolean left = across == 0;
                boolean right = across == wide - 1;
                all |= bit;
                rim |= left || right || down == 0 || down == high - 1 ? bit : 0L;
                notLeft |= left ? 0L : bit;
                notRight |= right ? 0L : bit;
                boolean last = down == high - 1;
                neighbours[place * WAYS] = right ? NONE : place + 1;
                neighbours[place * WAYS + 1] = last ? NONE : place + wide;
                neighbours[place * WAYS + 2] = last || right ? NONE : place + wide + 1;
                neighbours[place * WAYS + 3] = last || left ? NONE : place + wide - 1;
            }
        }

        /** The places one step across or down from some, maybe with some of these. */
        private long around(long some) {
            long sideways = (some & notRight) << 1 | (some & notLeft) >>> 1;
            return (sideways | some << wide | some >>> wide) & all;
        }

        /** All of the places within that hang together with those from which one starts. */
        private long spread(long from, long within) {
            long reached = from & within;
            for (int turn = 0; turn < PLACES_MOST; turn++) {
                long more = around(reached) & within & ~reached;
                if (more == 0) {
                    break;
                }
                reached |= more;
            }
            return reached;
        }

        private int countParts(long some) {
            int many = 0;
            long left = some;
            for (int turn = 0; turn < PLACES_MOST && left != 0; turn++) {
                left &= ~spread(left & -left, left);
                many++;
            }
            return many;
        }

        private long shutIn(long edge) {
            long open = all & ~edge;
            return open & ~spread(open & rim, open);
        }
    }

    /** STONES, LAND and what is OWED on a DAY. Parts that are OWED never touch, so their places tell them all. */
    private static final class Field {
        private static final int MARK_HIGH = 1;
        private static final int MARK_SUNK = 2;
        private static final int MARK_CHILD = 4;

        private final Border border;
        private final Ground ground;
        private final long[] stones = new long[SIDES];
        private final int[] kindAt = new int[PLACES_MOST];
        private final int[] reachAt = new int[PLACES_MOST];
        private final long[] land = new long[SIDES];
        private long high;
        private long sunk;
        private long child;
        private long owed;
        private int day;
        /** Of the latest walk: the places between the ends of the LINES found, and their other ends. */
        private long covered;
        private long ends;
        /** How many LINES the latest edgeOf met. */
        private int lines;

        private Field(Border border, Ground ground) {
            this.border = border;
            this.ground = ground;
        }

        private void clear() {
            stones[0] = 0;
            stones[1] = 0;
            land[0] = 0;
            land[1] = 0;
            high = 0;
            sunk = 0;
            child = 0;
            owed = 0;
            day = 0;
        }

        private void begin() {
            clear();
            for (int place = 0; place < ground.places; place++) {
                if (border.hasStone(place)) {
                    put(whose(border.stones, place), border.kindAt[place], place);
                }
            }
            land[0] = border.land[0];
            land[1] = border.land[1];
        }

        private void load(Field from) {
            System.arraycopy(from.stones, 0, stones, 0, SIDES);
            System.arraycopy(from.kindAt, 0, kindAt, 0, PLACES_MOST);
            System.arraycopy(from.reachAt, 0, reachAt, 0, PLACES_MOST);
            System.arraycopy(from.land, 0, land, 0, SIDES);
            high = from.high;
            sunk = from.sunk;
            child = from.child;
            owed = from.owed;
            day = from.day;
        }

        private int mover() {
            return day & 1;
        }

        private long taken() {
            return stones[0] | stones[1];
        }

        private boolean isTaken(int place) {
            return bitAt(taken(), place) == 1;
        }

        private int countKind(int side, int kind) {
            int many = 0;
            for (int place = 0; place < ground.places; place++) {
                if (bitAt(stones[side], place) == 1 && kindAt[place] == kind) {
                    many++;
                }
            }
            return many;
        }

        private void put(int side, int kind, int place) {
            if (side < 0 || side >= SIDES || kind < 0 || kind >= KINDS_MOST || place < 0 || place >= PLACES_MOST) {
                return;
            }
            long bit = 1L << place;
            int marks = border.marks[kind];
            stones[side] |= bit;
            kindAt[place] = kind;
            reachAt[place] = border.reach[kind];
            high |= (marks & MARK_HIGH) != 0 ? bit : 0L;
            sunk |= (marks & MARK_SUNK) != 0 ? bit : 0L;
            child |= (marks & MARK_CHILD) != 0 ? bit : 0L;
        }

        private void take(int place) {
            long others = ~(1L << place);
            stones[0] &= others;
            stones[1] &= others;
            high &= others;
            sunk &= others;
            child &= others;
        }

        /** THE EDGE of a side; its LINES are counted on the way. */
        private long edgeOf(int side) {
            long own = stones[side] & ~child;
            long edge = stones[side];
            lines = 0;
            for (int place = 0; place < ground.places; place++) {
                if (bitAt(own, place) == 1) {
                    for (int way = 0; way < Ground.WAYS; way++) {
                        walk(place, way, own);
                        edge |= covered;
                        lines += Long.bitCount(ends);
                    }
                }
            }
            return edge;
        }

        /** Looks for the LINES from a STONE one way, to those of its side's STONES that can have any. */
        private void walk(int from, int way, long own) {
            covered = 0;
            ends = 0;
            long bars = (stones[0] | stones[1]) & ~sunk;
            long between = 0;
            boolean anyHigh = (own & high) != 0;
            boolean fromHigh = (high >>> from & 1L) != 0;
            boolean barred = false;
            int at = from;
            for (int step = 1; step <= reachAt[from]; step++) {
                at = ground.neighbours[at * Ground.WAYS + way];
                if (at < 0 || at >= PLACES_MOST || barred && !anyHigh) {
                    return;
                }
                long bit = 1L << at;
                boolean seen = !barred || fromHigh || (high & bit) != 0;
                if ((own & bit) != 0 && reachAt[at] >= step && seen) {
                    covered |= between;
                    ends |= bit;
                }
                barred = barred || (bars & bit) != 0;
                between |= bit;
            }
        }

        private int linesOf(int side) {
            edgeOf(side);
            return lines;
        }

        private boolean isLine(int side, int first, int second) {
            long own = stones[side] & ~child;
            long met = 0;
            for (int way = 0; way < Ground.WAYS && bitAt(own, first) == 1; way++) {
                walk(first, way, own);
                met |= ends;
            }
            return bitAt(met, second) == 1;
        }

        private long shutBy(int side) {
            return ground.shutIn(edgeOf(side));
        }

        /** A DAY goes by; before is what its side had SHUT IN ahead of it, place NONE a pass. */
        private void go(int kind, int place, long before) {
            int side = mover();
            long answered = place == NONE ? 0L : ground.spread(1L << place, owed);
            long lost = owed & ~answered;
            land[1 - side] |= lost;
            land[side] &= ~lost;
            owed = 0;
            if (place != NONE) {
                put(side, kind, place);
                owed = freshParts(side, before, ground.shutIn(edgeOf(side)));
            }
            day++;
        }

        /** The latest DAY goes back to the LAND and what was OWED ahead of it. */
        private void back(int place, long red, long blue, long owedThen) {
            day--;
            if (place != NONE) {
                take(place);
            }
            land[0] = red;
            land[1] = blue;
            owed = owedThen;
        }

        /** The parts now that were not parts before and hold a place that is not the side's LAND. */
        private long freshParts(int side, long before, long now) {
            long fresh = 0;
            long left = now;
            for (int turn = 0; turn < PLACES_MOST && left != 0; turn++) {
                long part = ground.spread(left & -left, left);
                left &= ~part;
                boolean same = (part & ~before) == 0 && (ground.around(part) & before & ~part) == 0;
                if (!same && (part & ~land[side]) != 0) {
                    fresh |= part;
                }
            }
            return fresh;
        }

        /** What the other side would owe, were a STONE set now. */
        private long owedBy(int kind, int place) {
            long red = land[0];
            long blue = land[1];
            long owedNow = owed;
            go(kind, place, shutBy(mover()));
            long made = owed;
            back(place, red, blue, owedNow);
            return made;
        }

        /** The other side's DAY, as if it came at once: it owes nothing. */
        private void skipDay() {
            owed = 0;
            day++;
        }

        /** What a side has less what the other one has, all that is OWED being lost. */
        private int balance(int side) {
            int debtor = mover();
            long own = land[side];
            long others = land[1 - side];
            own = side == debtor ? own & ~owed : own | owed;
            others = side == debtor ? others | owed : others & ~owed;
            return border.worthOf(own) - border.worthOf(others);
        }
    }

    /** PLAY and the RULES OF THUMB, on the trial field. */
    private static final class Plays {
        private static final int FAR = 1000000;

        private final Field field;
        /** The side whose VALUE it is. */
        private int first;
        /** What the latest search sets first. */
        private int chosen;

        private Plays(Field field) {
            this.field = field;
        }

        private int valueOfPlay(int days) {
            first = field.mover();
            return search(days, -FAR, FAR);
        }

        /** VALUE by PLAY; a branch ends where one side has better elsewhere (it is not above low, below high). */
        private int search(int days, int low, int high) {
            if (days <= 0) {
                return field.balance(first);
            }
            boolean ours = field.mover() == first;
            long before = field.shutBy(field.mover());
            long red = field.land[0];
            long blue = field.land[1];
            long owed = field.owed;
            int best = ours ? -FAR : FAR;
            int pick = NONE;
            int places = field.ground.places;
            for (int i = 0; i <= places && low < high; i++) {
                int place = i < places ? i : NONE;
                if (place != NONE && field.isTaken(place)) {
                    continue;
                }
                field.go(0, place, before);
                int value = search(days - 1, low, high);
                field.back(place, red, blue, owed);
                if (ours ? value > best : value < best) {
                    best = value;
                    pick = place;
                }
                low = ours ? Math.max(low, best) : low;
                high = ours ? high : Math.min(high, best);
            }
            chosen = pick;
            return best;
        }

        /** VALUE, if the first DAY's side sets there (NONE: passes) and PLAY goes on. */
        private int valueBehind(int place, int days) {
            first = field.mover();
            long red = field.land[0];
            long blue = field.land[1];
            long owed = field.owed;
            field.go(0, place, field.shutBy(first));
            int value = search(days - 1, -FAR, FAR);
            field.back(place, red, blue, owed);
            return value;
        }

        private int byThumb(int rule) {
            int best = 0;
            int pick = NONE;
            for (int place = 0; place < field.ground.places; place++) {
                int gain = field.isTaken(place) ? 0 : gainOf(rule, place);
                if (gain > best) {
                    best = gain;
                    pick = place;
                }
            }
            return pick;
        }

        private int gainOf(int rule, int place) {
            switch (rule) {
                case 0: return bitAt(field.owed, place);
                case 1: return Long.bitCount(field.owedBy(0, place));
                default: return growthBy(place);
            }
        }

        private int growthBy(int place) {
            int side = field.mover();
            int before = Long.bitCount(field.edgeOf(side));
            field.put(side, 0, place);
            int after = Long.bitCount(field.edgeOf(side));
            field.take(place);
            return after - before;
        }
    }

    /** All ways in which STONES can lie under the rain, on the trial field. */
    private static final class Rain {
        private static final int FREE_MOST = 12;
        private static final int STONES_MOST = 3;

        private final Field field;
        private final int[] waysAt = new int[PLACES_MOST];
        private int ways;
        private int side;
        private int told;

        private Rain(Field field) {
            this.field = field;
        }

        private int count(long places, int side, int many, int told) {
            Arrays.fill(waysAt, 0);
            ways = 0;
            this.side = side;
            this.told = told;
            lay(places & ~field.taken(), 0L, many);
            return ways;
        }

        /** Lays so many STONES more on free places, each behind the one ahead of it. */
        private void lay(long free, long laid, int many) {
            if (many <= 0) {
                note(laid);
                return;
            }
            for (int place = 0; place < field.ground.places; place++) {
                if (bitAt(free, place) == 1) {
                    field.put(side, 0, place);
                    lay(free & -2L << place, laid | 1L << place, many - 1);
                    field.take(place);
                }
            }
        }

        private void note(long laid) {
            if (bitAt(field.shutBy(side), told) == 0) {
                return;
            }
            ways++;
            for (int place = 0; place < PLACES_MOST; place++) {
                waysAt[place] += bitAt(laid, place);
            }
        }

        private int odds(int place) {
            if (ways == 0 || place < 0 || place >= PLACES_MOST) {
                return NONE;
            }
            return 1000 * waysAt[place] / ways;
        }
    }

    /** ROWS OF DAYS, gone through on the trial field. */
    private static final class Orders {
        private static final int STONES_MOST = 8;

        private final Field field;

        private Orders(Field field) {
            this.field = field;
        }

        private int count(Field end) {
            int red = Long.bitCount(end.stones[0]);
            int blue = Long.bitCount(end.stones[1]);
            if (red == 0 || red + blue > STONES_MOST || red != blue && red != blue + 1) {
                return NONE;
            }
            field.clear();
            return countFrom(end, red + blue);
        }

        /** How many orders of the so many STONES that are not yet set end as they should. */
        private int countFrom(Field end, int left) {
            if (left <= 0) {
                return field.land[0] == end.land[0] && field.land[1] == end.land[1] ? 1 : 0;
            }
            int side = field.mover();
            long before = field.shutBy(side);
            long red = field.land[0];
            long blue = field.land[1];
            long owed = field.owed;
            int many = 0;
            for (int place = 0; place < field.ground.places; place++) {
                if (bitAt(end.stones[side] & ~field.taken(), place) == 1) {
                    field.go(end.kindAt[place], place, before);
                    many += countFrom(end, left - 1);
                    field.back(place, red, blue, owed);
                }
            }
            return many;
        }
    }

    /** The latest DAYS, so that they can be undone, and how often places changed hands. */
    private static final class Chronicle {
        private static final int KEPT_MOST = 40;

        private final int[] placeOf = new int[KEPT_MOST];
        private final long[] redThen = new long[KEPT_MOST];
        private final long[] blueThen = new long[KEPT_MOST];
        private final long[] owedThen = new long[KEPT_MOST];
        private int last;
        private int many;
        private final int[] changes = new int[PLACES_MOST];

        private void clear() {
            many = 0;
            Arrays.fill(changes, 0);
        }

        /** Keeps what is so ahead of a DAY on which that place is set; the oldest DAY is forgotten for it. */
        private void keep(Field field, int place) {
            last = (last + 1) % KEPT_MOST;
            many = Math.min(many + 1, KEPT_MOST);
            placeOf[last] = place;
            redThen[last] = field.land[0];
            blueThen[last] = field.land[1];
            owedThen[last] = field.owed;
        }

        /** Counts what changed hands on the DAY that was kept last and has gone by now. */
        private void noteChanges(Field field) {
            addChanges(field, 1);
        }

        private void addChanges(Field field, int sign) {
            long toRed = field.land[0] & ~redThen[last];
            long toBlue = field.land[1] & ~blueThen[last];
            for (int place = 0; place < PLACES_MOST; place++) {
                changes[place] += sign * bitAt(toRed | toBlue, place);
            }
        }

        private boolean takeBack(Field field) {
            if (many == 0) {
                return false;
            }
            addChanges(field, -1);
            field.back(placeOf[last], redThen[last], blueThen[last], owedThen[last]);
            last = (last + KEPT_MOST - 1) % KEPT_MOST;
            many--;
            return true;
        }
    }
}
