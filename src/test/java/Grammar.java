import java.util.ArrayDeque;
import java.util.ArrayList;
import java.util.Deque;
import java.util.HashMap;
import java.util.HashSet;
import java.util.List;
import java.util.Map;
import java.util.Set;
import java.util.regex.Matcher;
import java.util.regex.Pattern;

/**
 * A second reader of texts, told apart from the class's on purpose: a row of what is still awaited takes the place of
 * methods that call each other, and all FAULTS are looked for, each sort by itself, the first along the text told then.
 */
final class Grammar {
    private static final Pattern PIECE = Pattern.compile("[a-z]+|[0-9]+|[ \n]+|.", Pattern.DOTALL);
    private static final Set<String> OWN = Set.of("field kind reach high sunk child stone red blue at land worth when or and not all across down edge min max".split(" "));
    private static final Set<String> MARKS = Set.of("high", "sunk", "child");

    /** What each term is made of, by the token with which it begins; a row under * serves for all others. */
    private static final Map<String, Map<String, String>> TERMS = new HashMap<>();

    static {
        term("TEXT", "*", "field Wide High ; MORE");
        term("MORE", "END", "");
        term("MORE", "*", "STATEMENT ; MORE");
        term("STATEMENT", "kind", "kind Give reach Reach MARKS");
        term("STATEMENT", "stone", "stone Ask SIDE at Across Down #stone");
        term("STATEMENT", "land", "land SIDE at Across Down");
        term("STATEMENT", "worth", "worth SUM when TEST");
        term("SIDE", "red", "red");
        term("SIDE", "blue", "blue");
        for (String mark : MARKS) {
            term("MARKS", mark, "Mark MARKS");
        }
        term("MARKS", "*", "");
        term("TEST", "*", "BOTH ORS");
        term("ORS", "or", "or BOTH ORS");
        term("ORS", "*", "");
        term("BOTH", "*", "FACT ANDS");
        term("ANDS", "and", "and FACT ANDS");
        term("ANDS", "*", "");
        term("FACT", "not", "not FACT #close");
        term("FACT", "[", "[ TEST ] #close");
        term("FACT", "all", "all");
        term("FACT", "*", "SUM SIGN SUM");
        for (String sign : "< > =".split(" ")) {
            term("SIGN", sign, sign);
        }
        term("SUM", "*", "PRODUCT ADDS");
        term("ADDS", "+", "+ PRODUCT ADDS");
        term("ADDS", "-", "- PRODUCT ADDS");
        term("ADDS", "*", "");
        term("PRODUCT", "*", "PART TIMES");
        // The row under * would be taken for the sign * too.
        term("TIMES", "times", "* PART TIMES");
        term("TIMES", "/", "/ PART TIMES");
        term("TIMES", "*", "");
        for (String word : "across down edge".split(" ")) {
            term("PART", word, word);
        }
        term("PART", "(", "( SUM ) #close");
        term("PART", "min", "min ( SUM , SUM ) #close");
        term("PART", "max", "max ( SUM , SUM ) #close");
        term("PART", "*", "Part");
    }

    private static void term(String name, String first, String row) {
        TERMS.computeIfAbsent(name, n -> new HashMap<>()).put(first, row);
    }

    private record Token(String text, int at, boolean stuck) {
    }

    /** A token that fits, and what it was awaited as. */
    private record Fit(String as, Token token) {
        int number() {
            return Integer.parseInt(token.text);
        }
    }

    int fault;
    int place;
    int statements;
    private final String text;
    private final List<Token> tokens = new ArrayList<>();
    private final List<Fit> fits = new ArrayList<>();

    Grammar(String text) {
        this.text = text;
        place = Integer.MAX_VALUE;
        cut();
        // Of two at one place the later told counts: an 81st STATEMENT is FAULT 5 whatever stands there.
        fitAll();
        sizes();
        names();
        marks();
        spots();
        depths();
        counts();
        if (fault == 0) {
            place = -1;
        }
    }

    private void tell(int kind, int at) {
        if (at <= place) {
            fault = kind;
            place = at;
        }
    }

    private void cut() {
        Matcher m = PIECE.matcher(text);
        String ahead = " ";
        while (m.find()) {
            String piece = m.group();
            if (!isBlank(piece)) {
                tokens.add(new Token(piece, m.start(), isLong(piece) && isLong(ahead)));
            }
            ahead = piece;
        }
        tokens.add(new Token("END", text.length(), false));
    }

    private static boolean isBlank(String piece) {
        return piece.charAt(0) == ' ' || piece.charAt(0) == '\n';
    }

    private static boolean isLong(String piece) {
        return isWord(piece) || isNumber(piece);
    }

    private static boolean isWord(String piece) {
        return piece.charAt(0) >= 'a' && piece.charAt(0) <= 'z';
    }

    private static boolean isNumber(String piece) {
        return piece.charAt(0) >= '0' && piece.charAt(0) <= '9';
    }

    /** FAULT 1: fits token after token to what is awaited, as long as they fit. */
    private void fitAll() {
        Deque<String> awaited = new ArrayDeque<>(List.of("TEXT"));
        int i = 0;
        while (!awaited.isEmpty()) {
            String next = awaited.pop();
            Token token = tokens.get(i);
            if (next.startsWith("#")) {
                fits.add(new Fit(next, token));
            } else if (TERMS.containsKey(next)) {
                Map<String, String> rows = TERMS.get(next);
                String first = token.text.equals("*") ? "times" : token.text;
                String row = token.stuck ? rows.get("*") : rows.getOrDefault(first, rows.get("*"));
                if (next.equals("STATEMENT")) {
                    fits.add(new Fit("#statement", token));
                }
                if (row == null) {
                    tell(1, token.at);
                    return;
                }
                String[] parts = row.split(" ");
                for (int k = parts.length - 1; k >= 0; k--) {
                    if (!parts[k].isEmpty()) {
                        awaited.push(parts[k]);
                    }
                }
            } else {
                int wrong = token.stuck ? 0 : misfit(next, token.text);
                if (wrong >= 0) {
                    tell(1, token.at + wrong);
                    return;
                }
                fits.add(new Fit(next, token));
                i++;
            }
        }
    }

    /** How far into the token its first wrong byte is; -1 if it fits. */
    private static int misfit(String awaited, String token) {
        if (awaited.equals("Give") || awaited.equals("Ask")) {
            return !isWord(token) || OWN.contains(token) ? 0 : token.length() > 6 ? 6 : -1;
        }
        if (awaited.equals("Mark")) {
            return MARKS.contains(token) ? -1 : 0;
        }
        if (awaited.length() > 1 && Character.isUpperCase(awaited.charAt(0))) {
            return !isNumber(token) ? 0 : token.length() > 4 ? 4 : -1;
        }
        return awaited.equals(token) ? -1 : 0;
    }

    /** FAULT 2 of numbers that have bounds of their own. */
    private void sizes() {
        int wide = 0;
        int high = 0;
        for (Fit fit : fits) {
            switch (fit.as) {
                case "Wide": wide = bound(fit, 3, 7); break;
                case "High":
                    high = bound(fit, 3, 7);
                    if (wide * high > 36) {
                        tell(2, fit.token.at);
                    }
                    break;
                case "Reach": bound(fit, 1, 6); break;
                case "Across": bound(fit, 0, wide - 1); break;
                case "Down": bound(fit, 0, high - 1); break;
                default: break;
            }
        }
    }

    private int bound(Fit fit, int least, int most) {
        if (fit.number() < least || fit.number() > most) {
            tell(2, fit.token.at);
        }
        return fit.number();
    }

    /** FAULT 3. */
    private void names() {
        Set<String> given = new HashSet<>();
        for (Fit fit : fits) {
            if (fit.as.equals("Give") && !given.add(fit.token.text) || fit.as.equals("Ask") && !given.contains(fit.token.text)) {
                tell(3, fit.token.at);
            }
        }
    }

    /** FAULT 1 of a MARK that was told already. */
    private void marks() {
        Set<String> told = new HashSet<>();
        for (Fit fit : fits) {
            if (fit.as.equals("Give")) {
                told.clear();
            }
            if (fit.as.equals("Mark") && !told.add(fit.token.text)) {
                tell(1, fit.token.at);
            }
        }
    }

    /** FAULT 2 of places that have a stone. */
    private void spots() {
        Set<String> taken = new HashSet<>();
        for (int i = 2; i < fits.size(); i++) {
            if (fits.get(i).as.equals("#stone") && !taken.add(fits.get(i - 2).number() + " " + fits.get(i - 1).number())) {
                tell(2, fits.get(i - 1).token.at);
            }
        }
    }

    /** FAULT 4. */
    private void depths() {
        int open = 0;
        for (Fit fit : fits) {
            open += fit.as.equals("(") || fit.as.equals("[") || fit.as.equals("not") ? 1 : 0;
            open -= fit.as.equals("#close") ? 1 : 0;
            if (open > 6) {
                tell(4, fit.token.at);
            }
        }
    }

    /** FAULT 5. */
    private void counts() {
        Map<String, Integer> most = Map.of("kind", 5, "stone", 20, "worth", 6);
        Map<String, Integer> many = new HashMap<>();
        statements = 1;
        for (Fit fit : fits) {
            if (fit.as.equals("#statement")) {
                statements++;
                String sort = fit.token.text;
                if (statements > 80 || many.merge(sort, 1, Integer::sum) > most.getOrDefault(sort, 80)) {
                    tell(5, fit.token.at);
                }
            }
        }
    }
}
