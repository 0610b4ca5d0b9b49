import java.io.IOException;
import java.lang.reflect.Constructor;
import java.lang.reflect.Field;
import java.lang.reflect.Method;
import java.lang.reflect.Modifier;
import java.nio.charset.StandardCharsets;
import java.nio.file.Files;
import java.nio.file.Path;
import java.util.Set;
import java.util.TreeSet;
import java.util.regex.Matcher;
import java.util.regex.Pattern;

/** The public face: what 'The public face' and the promises declare, and nothing else that is not private. */
public final class FaceTest {
    private static final String METHODS = "alone/4 as/2 ask/2 bar/3 bestRound/4 copy/5 coughs/7 count/1 drop/1 fault/0 "
            + "feed/1 image/1 kind/1 kitchen/0 modes/7 pan/2 restore/1 round/4 row/3 set/3 singer/2 song/3 status/0 "
            + "toShut/6 trace/1 undo/0 window/3";

    private FaceTest() { }

    /** The program's path, and the document's. */
    public static void main(String[] args) throws IOException {
        String program = Files.readString(Path.of(args[0]), StandardCharsets.UTF_8);
        String document = Files.readString(Path.of(args[1]), StandardCharsets.UTF_8);
        constants();
        methods();
        nothingElse();
        asTheFaceDeclares(program, document);
        asThePromisesDeclare(program, document);
        Due.end("FaceTest");
    }

    private static void constants() {
        Due.is("NONE", JamSongs.NONE, -1000000);
        Due.is("BAD", JamSongs.BAD, -1000001);
        Due.is("STATE", JamSongs.STATE, -1000002);
        Due.is("FULL", JamSongs.FULL, -1000003);
    }

    private static void methods() {
        Set<String> face = new TreeSet<>();
        Set<String> hidden = new TreeSet<>();
        for (Method m : JamSongs.class.getDeclaredMethods()) {
            if (Modifier.isPrivate(m.getModifiers())) {
                hidden.add(m.getName());
            } else {
                face.add(m.getName() + "/" + m.getParameterCount());
                Due.is(m.getName() + " is public and of the object", m.getModifiers(), Modifier.PUBLIC);
                Due.is(m.getName() + " answers an int", m.getReturnType() == int.class ? 1 : 0, 1);
                for (Class<?> p : m.getParameterTypes()) {
                    Due.is(m.getName() + " takes ints", p == int.class ? 1 : 0, 1);
                }
            }
        }
        Due.is("the face is " + face, String.join(" ", face).equals(METHODS) ? 1 : 0, 1);
        for (String name : hidden) {
            Due.is("private " + name + " bears no public name", METHODS.matches("(.* )?" + name + "/.*") ? 1 : 0, 0);
        }
    }

    private static void nothingElse() {
        for (Constructor<?> c : JamSongs.class.getDeclaredConstructors()) {
            Due.is("constructor", c.getParameterCount() + 10 * c.getModifiers(), 10 * Modifier.PUBLIC);
        }
        for (Field f : JamSongs.class.getDeclaredFields()) {
            boolean told = f.getName().matches("NONE|BAD|STATE|FULL");
            Due.is("field " + f.getName() + " is private", Modifier.isPrivate(f.getModifiers()) ? 1 : 0, told ? 0 : 1);
        }
        for (Class<?> c : JamSongs.class.getDeclaredClasses()) {
            int modifiers = c.getModifiers();
            boolean kept = Modifier.isStatic(modifiers) && !Modifier.isPublic(modifiers) && !Modifier.isProtected(modifiers);
            Due.is("class " + c.getSimpleName() + " is static, and private or package-visible", kept ? 1 : 0, 1);
        }
        Due.is("final", JamSongs.class.getModifiers(), Modifier.PUBLIC | Modifier.FINAL);
    }

    /** Each declaration of the document's face stands in the program, in the document's own words. */
    private static void asTheFaceDeclares(String program, String document) {
        Matcher face = Pattern.compile("(?s)```java\n(.*?)```").matcher(document);
        String declared = face.find() ? face.group(1) : "";
        int many = 0;
        for (String line : declared.split("\n")) {
            String words = line.replaceAll("[;{}]", " ").trim();
            if (!words.isEmpty()) {
                many++;
                Due.is("the program declares '" + words + "'", program.contains(words) ? 1 : 0, 1);
            }
        }
        Due.is("declarations of the face: the class, its constants, its constructor, its methods", many, 3 + 27);
    }

    private static void asThePromisesDeclare(String program, String document) {
        Matcher promise = Pattern.compile("(?m)^`((?:int )?\\w+\\([^`]*\\))`:").matcher(document);
        int many = 0;
        while (promise.find()) {
            many++;
            String words = "public " + promise.group(1);
            Due.is("the program declares '" + words + "'", program.contains(words) ? 1 : 0, 1);
        }
        Due.is("promises that declare", many, 28);
    }
}
