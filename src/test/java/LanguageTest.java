import java.lang.reflect.Constructor;
import java.lang.reflect.Field;
import java.lang.reflect.Method;
import java.lang.reflect.Modifier;
import java.nio.file.Files;
import java.nio.file.Path;
import java.util.Arrays;
import java.util.List;
import java.util.Set;
import java.util.TreeSet;
import java.util.regex.Matcher;
import java.util.regex.Pattern;

/** Those rules of LANGUAGE.md that can be seen in the source text or in the compiled classes. */
public final class LanguageTest {
    private static final Check CHECK = new Check();
    private static final List<String> FACE = List.of("feed(int,int,int,int,int)int", "end(int)boolean", "border()int", "fault(int)int",
        "has(int)int", "letter(int,int)int", "kind(int,int)int", "place(int,int)int", "side(int,int)int", "set(int,int)int",
        "undo()boolean", "threat(int,int,int)int", "answer(int)int", "fork(int)int", "line(int,int)int", "play(int,int)int",
        "thumb(int,int,int)int", "truce(int)int", "rows()int", "hidden(long,int,int,int,int)int", "look(long,int,int,int)int",
        "seed(int)boolean", "year(int)int", "image()int", "octet(int)int");

    public static void main(String[] args) throws Exception {
        String source = Files.readString(Path.of("src/main/java/BorderStones.java"));
        face();
        classes();
        source(strip(source), source);
        CHECK.close("LanguageTest");
    }

    private static Set<String> faceNames() {
        Set<String> names = new TreeSet<>();
        for (String signature : FACE) {
            names.add(signature.substring(0, signature.indexOf('(')));
        }
        return names;
    }

    private static void face() {
        Class<?> c = BorderStones.class;
        CHECK.due("public and final", Modifier.isPublic(c.getModifiers()) && Modifier.isFinal(c.getModifiers()), true);
        Set<String> shown = new TreeSet<>();
        for (Method m : c.getDeclaredMethods()) {
            String params = String.join(",", Arrays.stream(m.getParameterTypes()).map(Class::getName).toList());
            if (Modifier.isPublic(m.getModifiers())) {
                shown.add(m.getName() + "(" + params + ")" + m.getReturnType());
            } else {
                CHECK.due("private: " + m.getName(), Modifier.isPrivate(m.getModifiers()), true);
                CHECK.due("another name than the face's: " + m, faceNames().contains(m.getName()), false);
            }
        }
        CHECK.due("the face's methods are " + shown, shown.equals(new TreeSet<>(FACE)), true);
        Set<String> constants = new TreeSet<>();
        for (Field f : c.getDeclaredFields()) {
            if (Modifier.isPublic(f.getModifiers())) {
                constants.add(f.getName());
            } else {
                CHECK.due("private: " + f.getName(), Modifier.isPrivate(f.getModifiers()), true);
            }
        }
        CHECK.due("the face's constants are " + constants, constants.equals(Set.of("NONE", "NOTHING")), true);
        Constructor<?>[] made = c.getDeclaredConstructors();
        CHECK.due("constructors", made.length, 1);
        CHECK.due("of no parameters, public", Modifier.isPublic(made[0].getModifiers()) && made[0].getParameterCount() == 0, true);
    }

    private static void classes() {
        Set<String> names = faceNames();
        Class<?>[] inside = BorderStones.class.getDeclaredClasses();
        CHECK.due("at most twelve classes", inside.length + 1 <= 12, true);
        for (Class<?> c : inside) {
            CHECK.due("static: " + c, Modifier.isStatic(c.getModifiers()), true);
            for (Method m : c.getDeclaredMethods()) {
                CHECK.due("another name than the face's: " + m, names.contains(m.getName()), false);
                CHECK.due("at most seven parameters: " + m, m.getParameterCount() <= 7, true);
            }
            fields(c);
        }
        fields(BorderStones.class);
    }

    private static void fields(Class<?> c) {
        int own = 0;
        for (Field f : c.getDeclaredFields()) {
            boolean isStatic = Modifier.isStatic(f.getModifiers());
            own += isStatic ? 0 : 1;
            CHECK.due("a static field is final: " + f, !isStatic || Modifier.isFinal(f.getModifiers()), true);
        }
        CHECK.due("at most twenty fields: " + c, own <= 20, true);
    }

    /** The source without comments and without what stands in quotes. */
    private static String strip(String source) {
        return source.replaceAll("(?s)/\\*.*?\\*/", "").replaceAll("//[^\n]*", "").replaceAll("\"[^\"\n]*\"", "\"\"")
            .replaceAll("'[^']'", "0");
    }

    private static void source(String code, String source) {
        for (String word : List.of("throw", "throws", "try", "catch", "finally", "synchronized", "assert", "protected", "package",
            "float", "double", "Object", "null", "var", "native", "volatile", "Random", "System.out", "nanoTime", "currentTimeMillis")) {
            CHECK.due("no " + word, Pattern.compile("\\b" + Pattern.quote(word) + "\\b").matcher(code).find(), false);
        }
        for (String sign : List.of("->", "::", "@", "+ \"", "\" +", "Exact(")) {
            CHECK.due("no " + sign, code.contains(sign), false);
        }
        CHECK.due("characters 1 to 127", source.chars().allMatch(c -> c > 0 && c < 128), true);
        Matcher imports = Pattern.compile("import ([^;]*);").matcher(code);
        while (imports.find()) {
            CHECK.due("import " + imports.group(1), imports.group(1).equals("java.util.Arrays"), true);
        }
        Matcher calls = Pattern.compile("\\b(Math|Integer|Long|System|Arrays)\\.(\\w+)").matcher(code);
        Set<String> known = Set.of("Math.min", "Math.max", "Math.floorDiv", "Long.bitCount", "System.arraycopy", "Arrays.fill");
        while (calls.find()) {
            CHECK.due("the library's " + calls.group(), known.contains(calls.group()), true);
        }
        methodLengths(code);
    }

    private static void methodLengths(String code) {
        String[] lines = code.split("\n");
        int start = -1;
        String indent = "";
        for (int i = 0; i < lines.length; i++) {
            Matcher head = Pattern.compile("^( {4}| {8})(private|public) [^=;]*\\(.*\\) \\{$").matcher(lines[i]);
            if (head.find()) {
                start = i;
                indent = head.group(1);
            } else if (start >= 0 && lines[i].equals(indent + "}")) {
                CHECK.due("at most sixty lines: " + lines[start].trim(), i - start < 60, true);
                start = -1;
            }
        }
    }
}
