/** Promises 23 to 28: kinds, asks, the trace, counts. */
public final class AsksTest {
    private static final int BAD = JamSongs.BAD, NONE = JamSongs.NONE, KIND = -1000013;

    public static void main(String[] args) {
        kinds();
        asks();
        theTrace();
        counts();
        Due.end("AsksTest");
    }

    private static JamSongs five() {
        JamSongs x = Due.kitchen("j1;s0,6,9;p1,5,1;c1,6,1;q127,7,1;m1,8,1;d1,9,0;");
        x.bar(0, 7, 7);
        x.bar(2, 7, 7);
        x.bar(0, 7, 7);
        return x;
    }

    private static void kinds() {
        JamSongs x = five();
        for (int p = 0; p < 5; p++) {
            Due.is("kind " + p, x.kind(p), p + 1);
        }
        Due.is("kind(-1)", x.kind(-1), BAD);
        Due.is("kind(5)", x.kind(5), BAD);
        Due.is("kind(max)", x.kind(Integer.MAX_VALUE), BAD);
        int[] also = {0b000011, 0b000111, 0b001011, 0b010001, 0b110001};
        for (int p = 0; p < 5; p++) {
            for (int k = 0; k < 6; k++) {
                boolean is = (also[p] >> k & 1) == 1;
                Due.is("as(" + p + ", " + k + ")", x.as(p, k), is ? p : KIND);
                Due.is("its status", x.status(), is ? 0 : 3);
            }
        }
        Due.is("as(-1, 0)", x.as(-1, 0), BAD);
        Due.is("as(5, 0)", x.as(5, 0), BAD);
        Due.is("as(0, -1)", x.as(0, -1), BAD);
        Due.is("as(0, 6)", x.as(0, 6), BAD);
    }

    private static void asked(JamSongs x, int pan, int what, int due, int... bodies) {
        Due.is("ask(" + pan + ", " + what + ")", x.ask(pan, what), due);
        for (int i = 0; i < 17; i++) {
            Due.is("its trace " + i, x.trace(i), i < bodies.length ? bodies[i] : NONE);
        }
    }

    private static void asks() {
        JamSongs x = five();
        int[] thick = {1, 1, 2, 0, 3};
        for (int p = 0; p < 5; p++) {
            Due.is("thick " + p, x.pan(p, 3), thick[p]);
        }
        asked(x, 0, 0, 5 + (0 + 1), 11, 10, 21, 20);
        asked(x, 0, 1, 1, 21, 20);
        asked(x, 1, 0, -(6 + 2 * (1 + 1)), 12, 11, 10, 24, 21, 20);
        asked(x, 1, 1, 4, 24, 21, 20);
        asked(x, 2, 0, 7 + 2 + 2 - 1000, 11, 10, 22, 21, 20);
        asked(x, 2, 1, 2 + 2 - 1000, 22, 21, 20);
        asked(x, 3, 0, 8 - 100, 13, 10);
        asked(x, 3, 1, 3 - (8 - 100), 23, 20, 13, 10);
        asked(x, 4, 0, 2 * (9 - 100), 14, 13, 10);
        asked(x, 4, 1, 4 - 2 * (9 - 100), 23, 20, 14, 13, 10);
    }

    private static void theTrace() {
        JamSongs x = five();
        Due.is("none before an ask", x.trace(0), NONE);
        x.ask(3, 0);
        Due.is("ask(5, 0)", x.ask(5, 0), BAD);
        Due.is("ask(-1, 0)", x.ask(-1, 0), BAD);
        Due.is("ask(0, 2)", x.ask(0, 2), BAD);
        Due.is("ask(0, -1)", x.ask(0, -1), BAD);
        Due.is("the trace stays", x.trace(0), 13);
        Due.is("trace(1)", x.trace(1), 10);
        Due.is("trace(2)", x.trace(2), NONE);
        Due.is("trace(-1)", x.trace(-1), NONE);
        Due.is("trace(16)", x.trace(16), NONE);
        Due.is("trace(min)", x.trace(Integer.MIN_VALUE), NONE);
        Due.is("trace(max)", x.trace(Integer.MAX_VALUE), NONE);
        Due.read(x, "j1;");
        Due.is("the trace stays by a kitchen", x.trace(0), 13);
    }

    private static void counts() {
        JamSongs x = five();
        x.row(4, 0, 2);
        x.feed(1);
        x.feed(1);
        int[] due = {1, 1, 5, 3, 1, 0, 3, 2};
        for (int what = 0; what < 8; what++) {
            Due.is("count(" + what + ")", x.count(what), due[what]);
        }
        Due.sing(x, "0000");
        Due.is("those that are set", x.count(5), 1);
        Due.is("count(min)", x.count(Integer.MIN_VALUE), BAD);
        Due.is("count(max)", x.count(Integer.MAX_VALUE), BAD);
    }
}
