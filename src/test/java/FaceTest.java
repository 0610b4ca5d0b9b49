import java.lang.reflect.Constructor;
import java.lang.reflect.Field;
import java.lang.reflect.Method;
import java.lang.reflect.Modifier;
import java.util.TreeSet;

/** The public face: its constants, its constructor, its methods, and nothing else that is not private. */
public final class FaceTest {
    private static final String METHODS = "alone/4 as/2 ask/2 bar/3 bestRound/4 copy/5 coughs/7 count/1 drop/1 fault/0 "
            + "feed/1 image/1 kind/1 kitchen/0 modes/7 pan/2 restore/1 round/4 row/3 set/3 singer/2 song/3 status/0 "
            + "toShut/6 trace/1 undo/0 window/3";

    public static void main(String[] args) {
        Due.is("NONE", JamSongs.NONE, -1000000);
        Due.is("BAD", JamSongs.BAD, -1000001);
        Due.is("STATE", JamSongs.STATE, -1000002);
        Due.is("FULL", JamSongs.FULL, -1000003);
        TreeSet<String> face = new TreeSet<>();
        TreeSet<String> hidden = new TreeSet<>();
        for (Method m : JamSongs.class.getDeclaredMethods()) {
            if (Modifier.isPrivate(m.getModifiers())) {
                hidden.add(m.getName());
            } else {
                face.add(m.getName() + "/" + m.getParameterCount());
                Due.is(m.getName() + " is public and of the object", m.getModifiers(), Modifier.PUBLIC);
                Due.is(m.getName() + " answers an int", m.getReturnType() == int.class ? 1 : 0, 1);
                for (Class<?> p : m.getParameterTypes()) {
                    Due.is(m.getName() + " takes ints", p == int.class ? 1 : 0, 1);
                }
            }
        }
        Due.is("the face is " + face, String.join(" ", face).equals(METHODS) ? 1 : 0, 1);
        for (String name : hidden) {
            Due.is("private " + name + " bears no public name", METHODS.matches("(.* )?" + name + "/.*") ? 1 : 0, 0);
        }
        for (Constructor<?> c : JamSongs.class.getDeclaredConstructors()) {
            Due.is("constructor", c.getParameterCount() + 10 * c.getModifiers(), 10 * Modifier.PUBLIC);
        }
        for (Field f : JamSongs.class.getDeclaredFields()) {
            boolean told = f.getName().matches("NONE|BAD|STATE|FULL");
            Due.is("field " + f.getName() + " is private", Modifier.isPrivate(f.getModifiers()) ? 1 : 0, told ? 0 : 1);
        }
        Due.is("final", JamSongs.class.getModifiers(), Modifier.PUBLIC | Modifier.FINAL);
        Due.end("FaceTest");
    }
}
