import java.io.IOException;
import java.nio.charset.StandardCharsets;
import java.nio.file.Files;
import java.nio.file.Path;
import java.util.regex.Matcher;
import java.util.regex.Pattern;

/** Those rules of LANGUAGE.md that a look at the words of the program can tell; its path is the argument. */
public final class LanguageTest {
    private static final String[] RULED_OUT = {
        "\\b(throw|throws|try|catch|synchronized|assert|package|protected|instanceof\\s+Object)\\b",
        "->", "::", "\\b(Object|HashMap|Map|Set|Optional|Stream|System\\.(?!arraycopy))\\b",
        "\\bMath\\.\\w+Exact\\b", "\\b(equals|hashCode|toString)\\b", "\\bstatic\\s*\\{", "@\\w+"
    };

    public static void main(String[] args) throws IOException {
        String text = Files.readString(Path.of(args[0]), StandardCharsets.UTF_8);
        String code = text.replaceAll("(?s)/\\*.*?\\*/", " ").replaceAll("//[^\n]*", " ");
        for (String pattern : RULED_OUT) {
            Matcher m = Pattern.compile(pattern).matcher(code);
            Due.is("words ruled out by " + pattern, m.find() ? 1 : 0, 0);
        }
        Matcher imports = Pattern.compile("import ([^;]*);").matcher(code);
        while (imports.find()) {
            Due.is("import " + imports.group(1), imports.group(1).equals("java.util.Arrays") ? 1 : 0, 1);
        }
        Matcher fields = Pattern.compile("\\bstatic (?!final)[\\w\\[\\]]+ \\w+\\s*(=|;)").matcher(code);
        Due.is("static fields that are not final", fields.find() ? 1 : 0, 0);
        Due.is("classes", code.split("\\bclass\\b").length - 1 <= 12 ? 1 : 0, 1);
        Due.is("signs above 127", text.chars().anyMatch(c -> c > 127) ? 1 : 0, 0);
        longMethods(code);
        Due.end("LanguageTest");
    }

    private static void longMethods(String code) {
        int from = 0;
        String[] lines = code.split("\n");
        for (int i = 0; i < lines.length; i++) {
            if (lines[i].matches("\\s*[\\w\\[\\] ]+\\([^;]*\\{\\s*") && !lines[i].matches("\\s*(if|for|while|switch)\\b.*")) {
                from = i;
            }
            if (lines[i].matches("\\s{4,8}\\}")) {
                Due.is("lines of the method at line " + (from + 1), i - from <= 60 ? 1 : 0, 1);
            }
        }
    }
}
