/** Promises 9 to 13, 21, 22: bars, windows, what is undone, pans, singers, images. */
public final class ActsTest {
    private static final int BAD = JamSongs.BAD, STATE = JamSongs.STATE, NONE = JamSongs.NONE;

    public static void main(String[] args) {
        whoCanSing();
        plums();
        cherries();
        quinces();
        marrowsAndDamsons();
        windows();
        undone();
        manyActs();
        told();
        images();
        Due.end("ActsTest");
    }

    private static void whoCanSing() {
        JamSongs x = new JamSongs();
        Due.is("STATE ahead of BAD", x.bar(9, 9, 9), STATE);
        Due.read(x, "j1;s1,3,2;s0,6,9;p127,9,3;");
        Due.is("bar(-1, 7, 7)", x.bar(-1, 7, 7), BAD);
        Due.is("bar(8, 7, 7)", x.bar(8, 7, 7), BAD);
        Due.is("bar(7, 8, 7)", x.bar(7, 8, 7), BAD);
        Due.is("a note of no singer", x.bar(7, 7, 0), BAD);
        Due.is("BAD ahead of STATE", x.bar(0, 7, 0), BAD);
        Due.is("below LOW", x.bar(0, 7, 7), STATE);
        Due.is("above HIGH", x.bar(4, 7, 7), STATE);
        Due.is("nothing was sung", x.count(3), 0);
        Due.is("no act", x.count(6), 0);
        Due.is("LOW", x.bar(1, 7, 7), 0);
        Due.is("HIGH", x.bar(3, 7, 7), 0);
        Due.is("two bars", x.singer(0, 3), 2);
        Due.is("out of breath", x.bar(2, 7, 7), STATE);
        Due.is("the other sings", x.bar(7, 2, 7), 0);
        Due.is("it rested", x.singer(0, 3), 0);
        Due.is("one bar of the other", x.singer(1, 3), 1);
        Due.is("breath again", x.bar(2, 7, 7), 0);
        Due.is("BAR 4", x.count(3), 4);
    }

    private static void plums() {
        JamSongs x = Due.kitchen("j2;s0,6,9;s0,6,9;s0,6,9;p3,3,3;p3,1,0;p3,9,1;");
        Due.is("right", x.bar(0, 1, 5), 0);
        Due.is("thick 1", x.pan(0, 3), 1);
        Due.is("least of two", x.pan(0, 5), 0);
        Due.is("one note is not of the mode", x.bar(0, 2, 7), 0);
        Due.is("0 at least", x.pan(0, 3), 0);
        x.bar(1, 7, 7);
        x.bar(1, 7, 7);
        x.bar(7, 7, 5);
        Due.is("still", x.pan(0, 3), 2);
        Due.is("it heard none", x.pan(0, 5), NONE);
        Due.is("third", x.bar(7, 0, 7), 1);
        Due.is("set", x.pan(0, 4), 1);
        Due.is("as thick as it needs", x.pan(0, 3), 3);
        Due.is("set: it hears none", x.pan(0, 5), NONE);
        Due.is("set for ever", x.bar(6, 7, 7), 1);
        Due.is("nor thinner", x.pan(0, 3), 3);
        Due.is("pan 2: 4 less 2", x.pan(2, 3), 2);
        Due.is("pan 2 heard 6", x.pan(2, 5), 6);
        Due.is("bits", x.count(5), 1);
        Due.is("not set", x.pan(2, 4), 0);
    }

    private static void cherries() {
        JamSongs x = Due.kitchen("j1;s0,6,9;c1,4,1;p1,4,1;");
        Due.sing(x, "000");
        Due.is("3 by right", x.pan(0, 3), 3);
        x.bar(7, 7, 7);
        Due.is("3 by still", x.pan(0, 3), 3);
        x.bar(1, 7, 7);
        Due.is("0 by wrong", x.pan(0, 3), 0);
        Due.is("plums only 1 less", x.pan(1, 3), 2);
    }

    private static void quinces() {
        JamSongs x = Due.kitchen("j2;s0,6,9;s0,6,9;q63,9,3;");
        int[][] bars = {
            {2, 7, 0}, {4, 7, 1}, {2, 7, 2}, {2, 7, 0}, {3, 7, 0}, {5, 6, 0}, {3, 7, 1}, {5, 5, 2},
            {7, 7, 2}, {3, 7, 0}, {1, 3, 1}, {3, 2, 0}, {4, 4, 1}, {2, 7, 2}, {6, 7, 0}, {4, 7, 1}, {1, 4, 0}
        };
        for (int[] b : bars) {
            x.bar(b[0], b[1], 7);
            Due.is("quinces after " + b[0] + b[1], x.pan(0, 3), b[2]);
            x.bar(7, 7, 7);
            x.undo();
            if (x.singer(0, 3) > 8) {
                Due.is("too many bars for this test", 1, 0);
            }
        }
    }

    private static void marrowsAndDamsons() {
        JamSongs x = Due.kitchen("j1;s0,6,9;m127,1,1;m0,1,0;d1,3,1;d1,2,0;");
        Due.is("a bar", x.bar(0, 7, 7), 0);
        Due.is("a marrow stays", x.pan(0, 3), 0);
        Due.is("damsons by right", x.pan(2, 3), 0);
        Due.is("a marrow hears", x.pan(0, 5), 0);
        Due.is("damsons that hear none", x.pan(3, 3), 1);
        Due.is("still", x.bar(7, 7, 7), 8);
        Due.is("damsons by still", x.pan(2, 3), 1);
        x.bar(7, 7, 7);
        Due.is("2 by still", x.pan(2, 3), 2);
        x.bar(1, 7, 7);
        Due.is("0 by wrong", x.pan(2, 3), 0);
        x.bar(7, 7, 7);
        x.bar(0, 7, 7);
        Due.is("0 by right", x.pan(2, 3), 0);
        x.bar(7, 7, 7);
        x.bar(7, 7, 7);
        Due.is("set", x.bar(7, 7, 7), 12);
        Due.is("a marrow is never set", x.pan(1, 4), 0);
    }

    private static void windows() {
        JamSongs x = new JamSongs();
        Due.is("no pan", x.window(0, 0, 1), BAD);
        Due.read(x, "j1;s0,6,9;s0,6,9;p1,9,1;p1,9,2;");
        Due.is("pan 2", x.window(2, 0, 1), BAD);
        Due.is("pan -1", x.window(-1, 0, 1), BAD);
        Due.is("singer 2", x.window(0, 2, 1), BAD);
        Due.is("singer -1", x.window(0, -1, 1), BAD);
        Due.is("is 2", x.window(0, 0, 2), BAD);
        Due.is("is -1", x.window(0, 0, -1), BAD);
        Due.is("open already", x.window(0, 0, 1), STATE);
        Due.is("shut already", x.window(0, 1, 0), STATE);
        Due.is("no act", x.count(6), 0);
        Due.is("opened", x.window(0, 1, 1), 1);
        Due.is("hears both", x.pan(0, 2), 3);
        Due.is("the other pan", x.pan(1, 2), 2);
        Due.is("shut", x.window(0, 0, 0), 1);
        Due.is("hears 1", x.pan(0, 2), 2);
        x.bar(0, 3, 7);
        Due.is("heard 3", x.pan(0, 5), 3);
        Due.is("no bar goes by", x.count(3), 1);
        x.window(0, 1, 0);
        Due.is("heard before it was shut", x.pan(0, 5), 3);
        Due.is("four acts", x.count(6), 4);
    }

    private static void undone() {
        JamSongs x = Due.kitchen("j1;s0,6,2;p1,2,1;d1,9,0;");
        Due.is("none", x.undo(), STATE);
        x.bar(0, 7, 7);
        x.window(1, 0, 1);
        x.bar(0, 7, 7);
        x.bar(7, 7, 7);
        Due.is("4 acts", x.count(6), 4);
        Due.is("a bar of rests undone", x.undo(), 3);
        Due.is("BAR 2", x.count(3), 2);
        Due.is("sung 2", x.singer(0, 3), 2);
        Due.is("set", x.pan(0, 4), 1);
        Due.is("the second bar undone", x.undo(), 2);
        Due.is("not set", x.pan(0, 4), 0);
        Due.is("thick 1", x.pan(0, 3), 1);
        Due.is("heard 0", x.pan(0, 5), 0);
        Due.is("sung 1", x.singer(0, 3), 1);
        Due.is("damsons 1", x.pan(1, 3), 1);
        Due.is("the window undone", x.undo(), 1);
        Due.is("hears none", x.pan(1, 2), 0);
        Due.is("the first bar undone", x.undo(), 0);
        Due.is("heard none", x.pan(0, 5), NONE);
        Due.is("BAR 0", x.count(3), 0);
        Due.is("none again", x.undo(), STATE);
        Due.is("sung anew", x.bar(1, 7, 7), 0);
        Due.is("one act", x.count(6), 1);
    }

    private static void manyActs() {
        JamSongs x = Due.kitchen("j1;s0,6,9;p1,9,1;");
        for (int i = 0; i < 30; i++) {
            x.bar(7, 7, 7);
            Due.is("acts kept", x.count(6), Math.min(i + 1, 24));
        }
        for (int i = 23; i >= 0; i--) {
            Due.is("undone", x.undo(), i);
            Due.is("the bar then", x.count(3), 6 + i);
        }
        Due.is("the oldest are forgotten", x.undo(), STATE);
        Due.is("BAR 6", x.count(3), 6);
    }

    private static void told() {
        JamSongs x = Due.kitchen("j1;s0,6,2;p1,2,1;");
        Due.is("pan(-1, 0)", x.pan(-1, 0), BAD);
        Due.is("pan(1, 0)", x.pan(1, 0), BAD);
        Due.is("pan(0, -1)", x.pan(0, -1), BAD);
        Due.is("pan(0, 6)", x.pan(0, 6), BAD);
        Due.is("singer(-1, 0)", x.singer(-1, 0), BAD);
        Due.is("singer(1, 0)", x.singer(1, 0), BAD);
        Due.is("singer(0, -1)", x.singer(0, -1), BAD);
        Due.is("singer(0, 4)", x.singer(0, 4), BAD);
        Due.is("count(-1)", x.count(-1), BAD);
        Due.is("count(8)", x.count(8), BAD);
    }

    private static void images() {
        JamSongs x = new JamSongs();
        Due.is("image(-1)", x.image(-1), BAD);
        Due.is("image(2): BAD ahead of STATE", x.image(2), BAD);
        Due.is("restore(-1)", x.restore(-1), BAD);
        Due.is("restore(2)", x.restore(2), BAD);
        Due.is("restore(0)", x.restore(0), STATE);
        Due.read(x, "j5;s1,4,3;p4,2,1;q1,2,0;");
        x.bar(2, 7, 7);
        x.window(1, 0, 1);
        Due.is("image(0)", x.image(0), 1);
        Due.is("acts stay by an image", x.count(6), 2);
        Due.is("restore(1)", x.restore(1), STATE);
        x.bar(2, 7, 7);
        x.window(0, 0, 0);
        Due.is("image(1)", x.image(1), 1);
        Due.read(x, "j1;");
        Due.is("restore(0)", x.restore(0), 1);
        Due.is("no act can be undone", x.count(6), 0);
        Due.is("nor is", x.undo(), STATE);
        int[] due = {5, 0, 1, 4, 2, 1, 1, 0, 2, 1, 4, 3, 1, 1};
        int[] got = {x.count(4), x.count(5), x.count(3), x.pan(0, 0), x.pan(0, 1), x.pan(0, 2), x.pan(0, 3),
            x.pan(0, 4), x.pan(0, 5), x.singer(0, 0), x.singer(0, 1), x.singer(0, 2), x.singer(0, 3), x.pan(1, 2)};
        for (int i = 0; i < due.length; i++) {
            Due.is("restored, number " + i, got[i], due[i]);
        }
        Due.is("restore(1)", x.restore(1), 1);
        Due.is("set in it", x.count(5), 1);
        Due.is("BAR 2", x.count(3), 2);
        Due.is("restore(0) once more", x.restore(0), 1);
        Due.is("BAR 1", x.count(3), 1);
        Due.is("kinds", x.kind(1), 3);
        x.bar(2, 7, 7);
        Due.is("an act after it", x.undo(), 0);
        x.bar(2, 7, 7);
        x.window(0, 0, 0);
        x.restore(0);
        Due.is("acts before it are gone", x.count(6), 0);
        Due.is("and cannot be undone", x.undo(), STATE);
    }
}
