import java.io.IOException;
import java.lang.reflect.Modifier;
import java.nio.charset.StandardCharsets;
import java.nio.file.Files;
import java.nio.file.Path;
import java.util.ArrayList;
import java.util.Arrays;
import java.util.List;
import java.util.regex.Matcher;
import java.util.regex.Pattern;

/** Those rules of LANGUAGE.md that a look at the words of the program can tell; its path is the argument. */
public final class LanguageTest {
    private static final String[] RULED_OUT = {
        "\\b(throw|throws|try|catch|synchronized|assert|package|protected|instanceof\\s+Object)\\b",
        "->", "::", "\\b(Object|HashMap|Map|Set|Optional|Stream|System\\.(?!arraycopy))\\b",
        "\\bMath\\.\\w+Exact\\b", "\\b(equals|hashCode|toString)\\b", "\\bstatic\\s*\\{", "@\\w+"
    };

    public static void main(String[] args) throws IOException {
        String text = Files.readString(Path.of(args[0]), StandardCharsets.UTF_8);
        String code = text.replaceAll("(?s)/\\*.*?\\*/", " ").replaceAll("//[^\n]*", " ");
        for (String pattern : RULED_OUT) {
            Matcher m = Pattern.compile(pattern).matcher(code);
            Due.is("words ruled out by " + pattern, m.find() ? 1 : 0, 0);
        }
        Matcher imports = Pattern.compile("import ([^;]*);").matcher(code);
        while (imports.find()) {
            Due.is("import " + imports.group(1), imports.group(1).equals("java.util.Arrays") ? 1 : 0, 1);
        }
        Matcher fields = Pattern.compile("\\bstatic (?!final)[\\w\\[\\]]+ \\w+\\s*(=|;)").matcher(code);
        Due.is("static fields that are not final", fields.find() ? 1 : 0, 0);
        Due.is("classes", code.split("\\bclass\\b").length - 1 <= 12 ? 1 : 0, 1);
        Due.is("signs above 127", text.chars().anyMatch(c -> c > 127) ? 1 : 0, 0);
        longMethods(code);
        libraryCalls(code);
        parameters(code);
        fieldsOfEachClass();
        objectsMade(code);
        Due.end("LanguageTest");
    }

    /** Rule 4. */
    private static void libraryCalls(String code) {
        Matcher calls = Pattern.compile("\\b(Integer|Long|Math|Arrays|System|String|List)\\.(\\w+)").matcher(code);
        while (calls.find()) {
            boolean stands = calls.group().matches("System\\.arraycopy|Arrays\\.(copyOf|copyOfRange|fill)"
                + "|Integer\\.(bitCount|numberOfTrailingZeros)|Math\\.(abs|max|min)");
            Due.is("library call " + calls.group(), stands ? 1 : 0, 1);
        }
    }

    /** Rule 11: seven at most. */
    private static void parameters(String code) {
        Matcher methods = Pattern.compile("(?m)^ +[\\w\\[\\] ]+\\(([^()]*)\\) \\{").matcher(code);
        while (methods.find()) {
            Due.is("parameters of " + methods.group().trim(), methods.group(1).split(",").length <= 7 ? 1 : 0, 1);
        }
    }

    /** Rule 11: some twenty beside the constants. */
    private static void fieldsOfEachClass() {
        List<Class<?>> classes = new ArrayList<>(List.of(JamSongs.class.getDeclaredClasses()));
        classes.add(JamSongs.class);
        for (Class<?> c : classes) {
            long many = Arrays.stream(c.getDeclaredFields()).filter(f -> !Modifier.isStatic(f.getModifiers())).count();
            Due.is("fields of " + c.getSimpleName() + ": " + many, many <= 20 ? 1 : 0, 1);
        }
    }

    /** All calls of one run live in one room: an object makes its parts as it is made, and none later. */
    private static void objectsMade(String code) {
        for (String line : code.split("\n")) {
            if (line.matches(".*\\bnew\\b.*")) {
                boolean field = line.matches(" +(private )?final [\\w\\[\\]]+ \\w+ = new .*;\\s*");
                boolean inConstructor = line.matches(" +(rows\\[r\\]|images\\[k\\]) = new \\w+\\(\\);\\s*");
                Due.is("made by a field or in the constructor: " + line.trim(), field || inConstructor ? 1 : 0, 1);
            }
        }
    }

    private static void longMethods(String code) {
        int from = 0;
        String[] lines = code.split("\n");
        for (int i = 0; i < lines.length; i++) {
            if (lines[i].matches("\\s*[\\w\\[\\] ]+\\([^;]*\\{\\s*") && !lines[i].matches("\\s*(if|for|while|switch)\\b.*")) {
                from = i;
            }
            if (lines[i].matches("\\s{4,8}\\}")) {
                Due.is("lines of the method at line " + (from + 1), i - from <= 60 ? 1 : 0, 1);
            }
        }
    }
}
