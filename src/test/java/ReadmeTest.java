import java.io.IOException;
import java.lang.reflect.Method;
import java.lang.reflect.Modifier;
import java.net.URI;
import java.net.URL;
import java.net.URLClassLoader;
import java.nio.file.Files;
import java.nio.file.Path;
import java.util.ArrayList;
import java.util.List;
import java.util.Set;
import java.util.TreeSet;
import java.util.regex.Matcher;
import java.util.regex.Pattern;
import java.util.stream.Stream;
import javax.tools.ToolProvider;

/** What README.md shows of the class's use is so, each call is shown with an answer, and each test is listed. */
public final class ReadmeTest {
    private static final Pattern BLOCK = Pattern.compile("```java\n(.*?)```", Pattern.DOTALL);
    private static final Pattern ANSWERED = Pattern.compile("(treaty\\.(\\w+)\\(.*\\)); +// (-?\\d+)( \\((\\w+)\\))?: .*");
    private static final Pattern LISTED = Pattern.compile("(?m)^\\| (\\w+Test(?:, \\w+Test)*) \\|");

    private static final Check check = new Check();
    private static final List<String> calls = new ArrayList<>();
    private static final List<Long> answers = new ArrayList<>();
    private static final Set<String> shown = new TreeSet<>();

    public static void main(String[] args) throws IOException, ReflectiveOperationException {
        String readme = Files.readString(Path.of("README.md"));
        long[] got = answersOf(programOf(readme));
        check.due("answers", got.length, answers.size());
        for (int i = 0; i < Math.min(got.length, answers.size()); i++) {
            check.due("README.md: " + calls.get(i), got[i], answers.get(i));
        }
        check.holds("each call is shown with an answer: " + shown, shown.equals(publicNames()));
        check.holds("each test is listed, and no other", listed(readme).equals(testsThere()));
        check.end();
    }

    /** The blocks as they stand, but that the answers which are told are collected. */
    private static String programOf(String readme) throws ReflectiveOperationException {
        StringBuilder body = new StringBuilder();
        Matcher blocks = BLOCK.matcher(readme);
        while (blocks.find()) {
            for (String line : blocks.group(1).split("\n")) {
                Matcher answered = ANSWERED.matcher(line);
                body.append(answered.matches() ? collecting(answered) : line).append('\n');
                // Only the writing of a text, within its loop, may stand without an answer.
                check.holds("an answer is told: " + line,
                    answered.matches() || !line.contains("treaty.") || line.startsWith("    treaty.write("));
            }
        }
        return "public final class Shown {\n public static long[] answers() {\n long[] got = new long["
            + answers.size() + "];\n" + body + " return got;\n }\n}\n";
    }

    private static String collecting(Matcher answered) throws ReflectiveOperationException {
        String constant = answered.group(5);
        long answer = Long.parseLong(answered.group(3));
        if (constant != null) {
            check.due(constant, MustardTreaty.class.getField(constant).getInt(null), answer);
        }
        check.holds("a refusal is told by its name too: " + answered.group(), constant != null || answer >= 0);
        shown.add(answered.group(2));
        calls.add(answered.group(1));
        answers.add(answer);
        return "got[" + (answers.size() - 1) + "] = " + answered.group(1) + ";";
    }

    private static long[] answersOf(String program) throws IOException, ReflectiveOperationException {
        Path folder = Files.createTempDirectory("shown");
        Path source = folder.resolve("Shown.java");
        Path compiled = folder.resolve("Shown.class");
        try {
            Files.writeString(source, program);
            int failed = ToolProvider.getSystemJavaCompiler().run(null, null, null, "-proc:none",
                "-cp", System.getProperty("java.class.path"), "-d", folder.toString(), source.toString());
            check.due("README.md: compiling its blocks", failed, 0);
            return failed == 0 ? answersIn(folder.toUri()) : new long[0];
        } finally {
            Files.deleteIfExists(compiled);
            Files.deleteIfExists(source);
            Files.deleteIfExists(folder);
        }
    }

    private static long[] answersIn(URI folder) throws IOException, ReflectiveOperationException {
        try (URLClassLoader loader = new URLClassLoader(new URL[] {folder.toURL()})) {
            return (long[]) loader.loadClass("Shown").getMethod("answers").invoke(null);
        }
    }

    private static Set<String> publicNames() {
        Set<String> names = new TreeSet<>();
        for (Method m : MustardTreaty.class.getDeclaredMethods()) {
            if (Modifier.isPublic(m.getModifiers())) {
                names.add(m.getName());
            }
        }
        return names;
    }

    private static Set<String> listed(String readme) {
        Set<String> names = new TreeSet<>();
        Matcher rows = LISTED.matcher(readme);
        while (rows.find()) {
            names.addAll(List.of(rows.group(1).split(", ")));
        }
        return names;
    }

    private static Set<String> testsThere() throws IOException {
        Set<String> names = new TreeSet<>();
        try (Stream<Path> files = Files.list(Path.of("src/test/java"))) {
            files.map(file -> file.getFileName().toString()).filter(name -> name.endsWith("Test.java"))
                .forEach(name -> names.add(name.substring(0, name.length() - ".java".length())));
        }
        return names;
    }
}
