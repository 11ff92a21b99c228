import java.io.File;
import java.lang.reflect.Method;
import java.net.URL;
import java.net.URLClassLoader;
import java.nio.file.Files;
import java.nio.file.Path;
import java.util.ArrayList;
import java.util.Arrays;
import java.util.List;
import java.util.regex.Matcher;
import java.util.regex.Pattern;
import java.util.stream.Stream;
import javax.tools.ToolProvider;

/** README.md's calls, in its order on one object, answer as it tells; each call of the face and each test is in it. */
public final class ReadmeTest {
    private static final Path README = Path.of("README.md");
    private static final Path TESTS = Path.of("src/test/java");
    private static final Pattern BLOCK = Pattern.compile("```java\n(.*?)```", Pattern.DOTALL);
    private static final Pattern CALL = Pattern.compile("(\\S.*\\));\\s+// (-?\\d+|[A-Z]+)(:.*)?");

    private static final Check check = new Check();

    public static void main(String[] args) throws Exception {
        String page = Files.readString(README);
        List<String> body = new ArrayList<>();
        Matcher block = BLOCK.matcher(page);
        while (block.find()) {
            block.group(1).lines().map(ReadmeTest::asked).forEach(body::add);
        }
        check.yes("README.md has calls", body.size() > 31);
        everyCall(String.join("\n", body));
        everyTest(page);
        answers(body);
        check.end();
    }

    /** A call with its answer becomes a question; lines of another kind stay as they are. */
    private static String asked(String line) {
        Matcher call = CALL.matcher(line);
        if (!call.matches()) {
            check.yes("no answer told: " + line, !line.startsWith("r."));
            return line;
        }
        boolean isName = Character.isLetter(call.group(2).charAt(0));
        String want = isName ? "RainAccount." + call.group(2) : call.group(2) + "L";
        String text = call.group(1).replace("\"", "\\\"");
        return "due(wrong, \"" + text + "\", " + call.group(1) + ", " + want + ");";
    }

    private static void everyCall(String body) {
        for (Method m : RainAccount.class.getMethods()) {
            boolean own = m.getDeclaringClass() == RainAccount.class;
            check.yes("README.md does not call " + m.getName(), !own || body.contains("." + m.getName() + "("));
        }
    }

    private static void everyTest(String page) throws Exception {
        try (Stream<Path> files = Files.list(TESTS)) {
            List<String> names = files.map(f -> f.getFileName().toString()).filter(f -> f.endsWith("Test.java"))
                    .map(f -> "`" + f.replace(".java", "") + "`").toList();
            check.yes("there are tests", !names.isEmpty());
            names.forEach(name -> check.yes("README.md does not tell of " + name, page.contains(name)));
        }
    }

    private static void answers(List<String> body) throws Exception {
        Path room = Files.createTempDirectory("readme");
        Path file = room.resolve("Shown.java");
        Files.writeString(file, "public final class Shown {\n"
                + "static void due(java.util.List<String> wrong, String call, long got, long want) {\n"
                + "if (got != want) { wrong.add(call + \" answers \" + got); }\n}\n"
                + "public static java.util.List<String> wrong() {\n"
                + "java.util.List<String> wrong = new java.util.ArrayList<>();\n"
                + String.join("\n", body) + "\nreturn wrong;\n}\n}\n");
        String path = System.getProperty("java.class.path");
        int said = ToolProvider.getSystemJavaCompiler().run(null, null, null, "-proc:none", "-cp", path,
                "-d", room.toString(), file.toString());
        check.due("javac of README.md's calls", said, 0);
        if (said == 0) {
            try (URLClassLoader loader = new URLClassLoader(new URL[] {room.toUri().toURL()})) {
                for (Object line : (List<?>) loader.loadClass("Shown").getMethod("wrong").invoke(null)) {
                    check.yes("README.md tells otherwise: " + line, false);
                }
            }
        }
        for (File left : Arrays.asList(room.resolve("Shown.class").toFile(), file.toFile(), room.toFile())) {
            left.delete();
        }
    }
}
