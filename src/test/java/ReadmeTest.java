import java.io.IOException;
import java.net.URL;
import java.net.URLClassLoader;
import java.nio.file.Files;
import java.nio.file.Path;
import java.util.ArrayList;
import java.util.Comparator;
import java.util.List;
import java.util.regex.Matcher;
import java.util.regex.Pattern;
import java.util.stream.Stream;
import javax.tools.ToolProvider;

/** The code in README.md compiles, and each of its calls answers what is told behind it. */
public final class ReadmeTest {
    private static final Check CHECK = new Check();
    private static final Pattern BLOCK = Pattern.compile("```java\n(.*?)```", Pattern.DOTALL);
    private static final Pattern CALL = Pattern.compile("((?:x\\.|read\\().*\\));\\s+// (-?\\d+|true|false)\\b.*");

    public static void main(String[] args) throws IOException, ReflectiveOperationException {
        List<String> blocks = new ArrayList<>();
        Matcher m = BLOCK.matcher(Files.readString(Path.of("README.md")));
        while (m.find()) {
            blocks.add(m.group(1));
        }
        CHECK.due("blocks of code", blocks.size(), 2);
        Path room = Files.createTempDirectory("readme");
        try {
            run(room, blocks.get(0), blocks.get(1));
        } finally {
            remove(room);
        }
        CHECK.close("ReadmeTest");
    }

    private static void run(Path room, String helper, String example) throws IOException, ReflectiveOperationException {
        List<String> due = new ArrayList<>();
        StringBuilder body = new StringBuilder();
        for (String line : example.split("\n")) {
            Matcher call = CALL.matcher(line);
            if (call.matches()) {
                due.add(call.group(1) + " -> " + call.group(2));
                body.append("told.add(String.valueOf(").append(call.group(1)).append("));\n");
            } else {
                CHECK.due("a line that calls tells its answer: " + line, line.startsWith("x.") || line.startsWith("read("), false);
                body.append(line).append('\n');
            }
        }
        Path source = room.resolve("Example.java");
        Files.writeString(source, "import java.nio.*; import java.nio.charset.*; import java.util.*;\npublic class Example {\n" + helper
            + "public static void run(List<String> told) {\n" + body + "}\n}\n");
        String path = System.getProperty("java.class.path");
        int code = ToolProvider.getSystemJavaCompiler().run(null, null, null, "-cp", path, "-d", room.toString(), source.toString());
        CHECK.due("compiling README.md's code", code, 0);
        if (code != 0) {
            return;
        }
        List<String> told = new ArrayList<>();
        try (URLClassLoader loader = new URLClassLoader(new URL[] {room.toUri().toURL()})) {
            loader.loadClass("Example").getMethod("run", List.class).invoke(null, told);
        }
        CHECK.due("calls in README.md", told.size(), due.size());
        for (int i = 0; i < due.size() && i < told.size(); i++) {
            String call = due.get(i).substring(0, due.get(i).lastIndexOf(" -> "));
            CHECK.due(call, call + " -> " + told.get(i), due.get(i));
        }
    }

    private static void remove(Path room) throws IOException {
        try (Stream<Path> all = Files.walk(room)) {
            for (Path path : all.sorted(Comparator.reverseOrder()).toList()) {
                Files.delete(path);
            }
        }
    }
}
