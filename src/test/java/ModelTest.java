/** Long runs of calls of every kind, each answer compared with the model's; the runs are the same each time. */
public final class ModelTest {
    private static final int RUNS = 1200, CALLS = 400;
    private static final int[] FAR = {Integer.MIN_VALUE, Integer.MIN_VALUE + 1, -1000000, -2, -1, 41, 128, 70000,
        Integer.MAX_VALUE - 1, Integer.MAX_VALUE};

    private long seed;
    private JamSongs program;
    private Model model;
    private int run;

    public static void main(String[] args) {
        ModelTest test = new ModelTest();
        for (int r = 0; r < RUNS; r++) {
            test.run(r);
        }
        Due.end("ModelTest");
    }

    private int any(int bound) {
        seed = seed * 6364136223846793005L + 1442695040888963407L;
        return (int) ((seed >>> 33) % bound);
    }

    /** Mostly a number below the bound, now and then one at its edge or far off. */
    private int near(int bound) {
        int luck = any(60);
        if (luck == 0) {
            return FAR[any(FAR.length)];
        }
        if (luck == 1) {
            return any(2) == 0 ? -1 : bound;
        }
        return any(Math.max(bound, 1));
    }

    private void run(int r) {
        run = r;
        seed = 77777L * r + 5;
        program = new JamSongs();
        model = new Model();
        if (any(8) > 0) {
            read(text());
        }
        for (int k = 0; k < 4; k++) {
            tune(k);
        }
        for (int c = 0; c < CALLS; c++) {
            call(any(40));
            all();
        }
    }

    private void is(String call, int got, int due) {
        Due.is("run " + run + ": " + call, got, due);
    }

    private void read(String text) {
        for (int i = 0; i < text.length(); i++) {
            is("feed " + text, program.feed(text.charAt(i)), model.feed(text.charAt(i)));
        }
        is("kitchen " + text, program.kitchen(), model.kitchen());
        is("fault of " + text, program.fault(), model.fault());
    }

    private String text() {
        StringBuilder t = new StringBuilder().append('j').append(1 + any(3)).append(';');
        int singers = any(10) == 0 ? 0 : 1 + any(3);
        for (int s = 0; s < singers; s++) {
            int low = any(4);
            t.append('s').append(low).append(',').append(low + any(7 - low)).append(',').append(1 + any(4)).append(';');
        }
        int pans = any(6);
        for (int p = 0; p < pans; p++) {
            int mode = any(3) == 0 ? 127 : any(128) | any(128);
            t.append("pcqmd".charAt(any(5))).append(mode).append(',').append(1 + any(any(3) == 0 ? 20 : 4));
            t.append(',').append(any(1 << singers)).append(';');
        }
        return t.toString();
    }

    private String spoiled(String text) {
        StringBuilder t = new StringBuilder(text);
        for (int k = any(3); k >= 0; k--) {
            int at = any(t.length());
            String signs = "jspcqmdxa0123456789999,;; AZ" + (char) 233 + (char) 0;
            char c = signs.charAt(any(signs.length()));
            switch (any(4)) {
                case 0: t.setCharAt(at, c); break;
                case 1: t.insert(at, c); break;
                case 2: t.deleteCharAt(at); break;
                default: t.append(c);
            }
        }
        return t.toString();
    }

    private void tune(int row) {
        int n = any(20);
        int lane = any(3);
        is("row", program.row(row, lane, n), model.row(row, lane, n));
        int last = any(7);
        for (int i = 0; i < n; i++) {
            int v = any(4) == 0 ? 7 : any(3) == 0 ? any(7) : last;
            last = v == 7 ? last : any(2) == 0 ? Math.max(0, v - 2) : Math.min(6, v + 2);
            is("set", program.set(row, i, v), model.set(row, i, v));
        }
    }

    private void call(int which) {
        int r = near(any(10) == 0 ? 8 : 4);
        int i = any(6) == 0 ? near(21) : 0;
        int n = near(any(3) == 0 ? 17 : 8);
        int p = near(model.count(2));
        int s = near(model.count(1));
        int w = near(2);
        switch (which) {
            case 0: {
                int lane = near(3);
                is("row", program.row(r, lane, n), model.row(r, lane, n));
                break;
            }
            case 1: case 2: {
                int v = any(9) == 0 ? FAR[any(FAR.length)] : any(8);
                int at = near(16);
                is("set " + v, program.set(r, at, v), model.set(r, at, v));
                break;
            }
            case 3: {
                int b = near(4);
                int j = near(5);
                is("copy", program.copy(r, i, b, j, n), model.copy(r, i, b, j, n));
                break;
            }
            case 4:
                if (any(4) == 0) {
                    is("drop", program.drop(r), model.drop(r));
                }
                tune(any(4));
                break;
            case 5:
                if (any(3) == 0) {
                    read(any(2) == 0 ? text() : spoiled(text()));
                }
                break;
            case 6: {
                int letter = near(256);
                is("feed " + letter, program.feed(letter), model.feed(letter));
                break;
            }
            case 7:
                if (any(5) == 0) {
                    is("kitchen", program.kitchen(), model.kitchen());
                }
                break;
            case 8: case 9: {
                is("window", program.window(p, s, w), model.window(p, s, w));
                break;
            }
            case 10: case 11:
                is("undo", program.undo(), model.undo());
                break;
            case 12: case 13:
                is("alone " + s + r + i + n, program.alone(s, r, i, n), model.alone(s, r, i, n));
                break;
            case 14: case 15: {
                int d = near(9);
                is("round " + d + r + i + n, program.round(d, r, i, n), model.round(d, r, i, n));
                break;
            }
            case 16:
                is("bestRound", program.bestRound(r, i, n, w), model.bestRound(r, i, n, w));
                break;
            case 17: {
                int bars = any(20) == 0 ? near(5) : any(4);
                for (int k = -1; k < Math.min(bars, 5); k++) {
                    is("song " + bars + k, program.song(s, bars, k), model.song(s, bars, k));
                }
                int k = near(5);
                is("song " + bars + k, program.song(s, bars, k), model.song(s, bars, k));
                break;
            }
            case 18: case 19: {
                int d = near(9);
                is("toShut", program.toShut(p, d, r, i, n, w), model.toShut(p, d, r, i, n, w));
                break;
            }
            case 20: {
                int thick = near(any(2) == 0 ? 3 : 21);
                is("modes", program.modes(p, s, r, i, n, thick, w), model.modes(p, s, r, i, n, thick, w));
                break;
            }
            case 21: case 22: {
                int c = near(11);
                int few = near(any(6) == 0 ? 9 : 5);
                is("coughs " + c, program.coughs(p, s, r, i, few, c, w), model.coughs(p, s, r, i, few, c, w));
                break;
            }
            case 23:
                is("image", program.image(w), model.image(w));
                break;
            case 24:
                is("restore", program.restore(w), model.restore(w));
                break;
            case 25: {
                int kind = near(6);
                is("as", program.as(p, kind), model.as(p, kind));
                break;
            }
            case 26: case 27:
                is("ask", program.ask(p, w), model.ask(p, w));
                break;
            default:
                bar();
        }
    }

    private void bar() {
        int[] notes = {7, 7, 7};
        for (int s = 0; s < 3; s++) {
            notes[s] = any(3) == 0 ? 7 : any(50) == 0 ? near(8) : s < model.count(1) ? any(7) : 7;
        }
        String call = "bar " + notes[0] + " " + notes[1] + " " + notes[2];
        is(call, program.bar(notes[0], notes[1], notes[2]), model.bar(notes[0], notes[1], notes[2]));
    }

    /** Everything that can be seen without a change. */
    private void all() {
        is("fault", program.fault(), model.fault());
        is("status", program.status(), model.status());
        for (int k = -1; k < 9; k++) {
            is("count " + k, program.count(k), model.count(k));
            is("trace " + k, program.trace(k), model.trace(k));
        }
        for (int p = 0; p < 6; p++) {
            is("kind " + p, program.kind(p), model.kind(p));
            for (int k = 0; k < 7; k++) {
                is("pan " + p + k, program.pan(p, k), model.pan(p, k));
                is("singer " + p + k, program.singer(p, k), model.singer(p, k));
            }
        }
        int far = FAR[any(FAR.length)];
        is("pan " + far, program.pan(far, 0), model.pan(far, 0));
        is("singer " + far, program.singer(far, 0), model.singer(far, 0));
        is("kind " + far, program.kind(far), model.kind(far));
        is("count " + far, program.count(far), model.count(far));
        is("trace " + far, program.trace(far), model.trace(far));
    }
}
