import java.io.IOException;
import java.lang.reflect.Method;
import java.lang.reflect.Modifier;
import java.net.URL;
import java.net.URLClassLoader;
import java.nio.charset.StandardCharsets;
import java.nio.file.Files;
import java.nio.file.Path;
import java.util.ArrayList;
import java.util.List;
import java.util.Map;
import java.util.Set;
import java.util.TreeSet;
import java.util.regex.Matcher;
import java.util.regex.Pattern;
import javax.tools.ToolProvider;

/** README.md, its path is the third argument: its example tells each answer rightly, its table names each test. */
public final class ReadmeTest {
    /** A call and, behind it, a comment that begins with the answer. */
    private static final Pattern ANSWERED
        = Pattern.compile("(jam\\.(\\w+)\\(.*\\));\\s*// (-?\\d+|NONE|BAD|STATE|FULL)(: .*)?");
    private static final Map<String, Integer> NAMED = Map.of("NONE", -1000000, "BAD", -1000001, "STATE", -1000002,
        "FULL", -1000003);

    private static final List<String> CALLS = new ArrayList<>();
    private static final List<Integer> ANSWERS_DUE = new ArrayList<>();
    private static final Set<String> LEFT_OUT = new TreeSet<>();

    private ReadmeTest() { }

    public static void main(String[] args) throws Exception {
        String text = Files.readString(Path.of(args[2]), StandardCharsets.UTF_8);
        String[] aroundExample = text.split("```java\n", 2);
        Due.is("README has an example", aroundExample.length, 2);
        theExampleTellsEachAnswer(aroundExample[aroundExample.length - 1].split("```", 2)[0]);
        theTableNamesEachTest(text, Path.of("src/test/java").toFile().list());
        Due.end("ReadmeTest");
    }

    private static void theExampleTellsEachAnswer(String example) throws Exception {
        for (Method m : JamSongs.class.getDeclaredMethods()) {
            if (Modifier.isPublic(m.getModifiers())) {
                LEFT_OUT.add(m.getName());
            }
        }
        List<Integer> answers = run(asClass(example));
        Due.is("answers of README's example", answers.size(), CALLS.size());
        for (int k = 0; k < answers.size(); k++) {
            Due.is("README: " + CALLS.get(k), answers.get(k), ANSWERS_DUE.get(k));
        }
        Due.is("README leaves out " + LEFT_OUT, LEFT_OUT.size(), 0);
    }

    /** A class whose run puts each answer into a list. */
    private static String asClass(String example) {
        StringBuilder code = new StringBuilder("public final class ReadmeExample {\n");
        code.append("public static void run(java.util.List<Integer> answers) {\n");
        for (String line : example.split("\n")) {
            Matcher call = ANSWERED.matcher(line);
            if (call.matches()) {
                String due = call.group(3);
                CALLS.add(call.group(1));
                ANSWERS_DUE.add(NAMED.containsKey(due) ? NAMED.get(due) : Integer.parseInt(due));
                LEFT_OUT.remove(call.group(2));
                code.append("answers.add(").append(call.group(1)).append(");\n");
            } else {
                Due.is("README tells the answer of " + line, line.startsWith("jam.") ? 0 : 1, 1);
                code.append(line).append('\n');
            }
        }
        return code.append("}\n}\n").toString();
    }

    private static List<Integer> run(String code) throws Exception {
        List<Integer> answers = new ArrayList<>();
        Path out = Files.createTempDirectory("readme");
        Path source = Files.writeString(out.resolve("ReadmeExample.java"), code, StandardCharsets.UTF_8);
        int failed = ToolProvider.getSystemJavaCompiler().run(null, null, null, "--release", "17",
            "-d", out.toString(), "-cp", System.getProperty("java.class.path"), source.toString());
        Due.is("javac of README's example", failed, 0);
        if (failed == 0) {
            URL[] path = {out.toUri().toURL()};
            try (URLClassLoader loader = new URLClassLoader(path)) {
                loader.loadClass("ReadmeExample").getMethod("run", List.class).invoke(null, answers);
            }
            Files.delete(out.resolve("ReadmeExample.class"));
        }
        Files.delete(source);
        Files.delete(out);
        return answers;
    }

    private static void theTableNamesEachTest(String text, String[] files) throws IOException {
        Set<String> named = new TreeSet<>();
        Matcher row = Pattern.compile("(?m)^\\| `(\\w+Test)` \\|").matcher(text);
        while (row.find()) {
            named.add(row.group(1) + ".java");
        }
        Set<String> there = new TreeSet<>();
        for (String file : files == null ? new String[0] : files) {
            if (file.endsWith("Test.java")) {
                there.add(file);
            }
        }
        Due.is("README names " + named + ", there are " + there, named.equals(there) ? 1 : 0, 1);
    }
}
