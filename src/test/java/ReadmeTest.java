import java.lang.reflect.Method;
import java.lang.reflect.Modifier;
import java.net.URL;
import java.net.URLClassLoader;
import java.nio.file.Files;
import java.nio.file.Path;
import java.util.ArrayList;
import java.util.Comparator;
import java.util.List;
import java.util.regex.Matcher;
import java.util.regex.Pattern;
import java.util.stream.Stream;
import javax.tools.JavaCompiler;
import javax.tools.ToolProvider;

/** What README.md shows is compiled as it stands there and run: each call answers as it says behind it. */
public final class ReadmeTest {
    private static final Path README = Path.of("README.md");
    private static final String NAME = "ReadmeCalls";
    private static final Pattern BLOCK = Pattern.compile("(?ms)^```java\n(.*?)^```$");
    private static final Pattern ANSWERED =
            Pattern.compile("((?:x\\.\\w+|tell)\\(.*\\));\\s+// (-?\\d+|NONE|true|false)(?:: .*)?");

    private final List<String> calls = new ArrayList<>();
    private final List<String> due = new ArrayList<>();
    private final StringBuilder helpers = new StringBuilder();
    private final StringBuilder body = new StringBuilder();

    public static void main(String[] args) throws Exception {
        String page = Files.readString(README);
        new ReadmeTest().run(page);
        everyMethodIsShown(page);
        Due.is("README.md tells how the tests are run", page.contains("`.ci/run`"), true);
        Due.finish("ReadmeTest");
    }

    private void run(String page) throws Exception {
        Matcher block = BLOCK.matcher(page);
        while (block.find()) {
            if (block.group(1).startsWith("static ")) {
                helpers.append(block.group(1));
            } else {
                block.group(1).lines().forEach(this::take);
            }
        }
        List<String> got = answers();
        Due.is("how many calls were answered", got.size(), calls.size());
        for (int i = 0; i < Math.min(got.size(), calls.size()); i++) {
            String said = "call " + (i + 1) + " of README.md, " + calls.get(i) + ", said to be " + due.get(i)
                    + ", is " + got.get(i) + ": as said";
            Due.is(said, got.get(i).equals(due.get(i)), true);
        }
    }

    /** A line that is no call (a new object, a text) is taken as it stands. */
    private void take(String line) {
        Matcher answered = ANSWERED.matcher(line);
        if (answered.matches()) {
            calls.add(answered.group(1));
            due.add(answered.group(2).equals("NONE") ? String.valueOf(GuildBanner.NONE) : answered.group(2));
            body.append("answers.add(String.valueOf(").append(answered.group(1)).append("));\n");
        } else {
            boolean isCall = line.startsWith("x.") || line.startsWith("tell(");
            Due.is("README.md shows a call without its answer: " + line, isCall, false);
            body.append(line).append('\n');
        }
    }

    private List<String> answers() throws Exception {
        Path room = Files.createTempDirectory("readme");
        try {
            Path source = room.resolve(NAME + ".java");
            Files.writeString(source, "public final class " + NAME + " {\n" + helpers
                    + "public static void run(java.util.List<String> answers) {\n" + body + "}\n}\n");
            JavaCompiler compiler = ToolProvider.getSystemJavaCompiler();
            int failed = compiler.run(null, null, null, "-d", room.toString(),
                    "-cp", System.getProperty("java.class.path"), source.toString());
            Due.is("what README.md shows compiles", failed, 0);
            return failed == 0 ? runIn(room) : List.of();
        } finally {
            delete(room);
        }
    }

    private static List<String> runIn(Path room) throws Exception {
        List<String> answers = new ArrayList<>();
        try (URLClassLoader loader = new URLClassLoader(new URL[] {room.toUri().toURL()})) {
            loader.loadClass(NAME).getMethod("run", List.class).invoke(null, answers);
        }
        return answers;
    }

    private static void delete(Path room) throws Exception {
        try (Stream<Path> files = Files.walk(room)) {
            for (Path file : files.sorted(Comparator.reverseOrder()).toList()) {
                Files.delete(file);
            }
        }
    }

    private static void everyMethodIsShown(String page) {
        for (Method m : GuildBanner.class.getDeclaredMethods()) {
            if (Modifier.isPublic(m.getModifiers())) {
                Due.is("README.md shows " + m.getName(), page.contains("x." + m.getName() + "("), true);
            }
        }
    }
}
