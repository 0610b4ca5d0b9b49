import java.util.ArrayList;
import java.util.List;

/**
 * Two objects are told the same story; a call is made of one of them; then both are asked the same, by one probe
 * after another (each with objects of its own, so that no object has more than 512 calls), and must answer the same.
 */
final class Twins {
    /** A call of an object, and its answer. */
    interface Call {
        int of(JamSongs x);
    }

    /** PANS 0 to 4 are of the five sorts, SINGERS 0 to 2; the last has sung as long as its breath. */
    static final String TEXT = "j2;s0,6,9;s1,5,2;s3,3,1;p21,3,1;c31,6,3;q127,9,1;m127,5,7;d0,2,4;";
    private static final int PROBES = 8;

    private Twins() { }

    /** ROWS 0 (8 bytes), 1 (4 shorts), 2 (20 ints), 4 (no bytes), 5 (40 bytes) are there; 3, 6, 7 are missing. */
    private static void rows(JamSongs x) {
        Due.tune(x, 0, "02420717");
        x.row(1, 1, 4);
        x.set(1, 0, 3);
        x.set(1, 1, 300);
        x.set(1, 2, -1);
        x.set(1, 3, 7);
        x.row(2, 2, 20);
        x.set(2, 0, 5);
        x.set(2, 19, 8);
        x.row(4, 0, 0);
        x.row(5, 0, 40);
    }

    /** Two bytes are on the tape, the latest FAULT was 2, the latest FINDING NULL; IMAGE 0 is kept, 1 is not. */
    static JamSongs story() {
        JamSongs x = new JamSongs();
        Due.read(x, "j0;");
        Due.read(x, TEXT);
        rows(x);
        x.bar(0, 1, 3);
        x.bar(2, 2, 7);
        x.window(2, 1, 1);
        x.image(0);
        x.bar(4, 7, 7);
        x.bar(2, 7, 3);
        x.window(4, 0, 1);
        x.ask(1, 0);
        Due.feed(x, "j1");
        x.drop(3);
        return x;
    }

    /** The same without a KITCHEN. */
    static JamSongs bareStory() {
        JamSongs x = new JamSongs();
        Due.read(x, "j0;");
        rows(x);
        Due.feed(x, "j1");
        x.drop(3);
        return x;
    }

    /** The call has this answer, a refusal or a finding, and nothing changes by it but status() by a finding. */
    static void refuses(String call, int due, Call made) {
        for (int p = 0; p < PROBES; p++) {
            JamSongs touched = story();
            Due.is(call, made.of(touched), due);
            compare(call, p, due, touched, story());
        }
    }

    static void refusesWithoutKitchen(String call, int due, Call made) {
        for (int p = 0; p < PROBES; p++) {
            JamSongs touched = bareStory();
            Due.is(call + " without a kitchen", made.of(touched), due);
            compare(call + " without a kitchen", p, due, touched, bareStory());
        }
    }

    /** Nothing changes by the call, but status(), which is 0 then, if it has a ROW. */
    static void changesNothing(String call, boolean withRow, Call made) {
        for (int p = 0; p < PROBES; p++) {
            JamSongs touched = story();
            made.of(touched);
            if (withRow) {
                Due.is("status() behind " + call, touched.status(), 0);
                touched.drop(3);
            }
            compare(call, p, 0, touched, story());
        }
    }

    /** An IMAGE is kept by the call: nothing else changes, so the probe that restores it is left out. */
    static void changesOnlyRestored(String call, Call made) {
        for (int p = 0; p < PROBES; p++) {
            if (p != 2) {
                JamSongs touched = story();
                made.of(touched);
                compare(call, p, 0, touched, story());
            }
        }
    }

    private static void compare(String call, int probe, int answer, JamSongs touched, JamSongs other) {
        if (answer <= -1000011 && answer >= -1000015) {
            Due.is("status() behind " + call, touched.status(), -1000010 - answer);
            touched.drop(3);
        }
        List<Integer> got = new ArrayList<>();
        List<Integer> due = new ArrayList<>();
        probe(probe, touched, got);
        probe(probe, other, due);
        Due.is("probe " + probe + " behind " + call + ": how many answers", got.size(), due.size());
        for (int i = 0; i < Math.min(got.size(), due.size()); i++) {
            Due.is("probe " + probe + ", answer " + i + " behind " + call, got.get(i), due.get(i));
        }
    }

    private static void probe(int probe, JamSongs x, List<Integer> told) {
        switch (probe) {
            case 0 -> show(x, told);
            case 1 -> undoAll(x, told);
            case 2 -> restoreBoth(x, told);
            case 3 -> readTape(x, told);
            case 4 -> readRows(x, told);
            case 5 -> foretell(x, told);
            case 6 -> singOn(x, told);
            default -> fillTape(x, told);
        }
    }

    private static void show(JamSongs x, List<Integer> told) {
        told.add(x.status());
        told.add(x.fault());
        for (int what = 0; what < 8; what++) {
            told.add(x.count(what));
        }
        for (int i = 0; i < 16; i++) {
            told.add(x.trace(i));
        }
        for (int p = 0; p < 5; p++) {
            told.add(x.kind(p));
            for (int what = 0; what < 6; what++) {
                told.add(x.pan(p, what));
            }
        }
        for (int s = 0; s < 3; s++) {
            for (int what = 0; what < 4; what++) {
                told.add(x.singer(s, what));
            }
        }
    }

    private static void showWhatActsChange(JamSongs x, List<Integer> told) {
        told.add(x.count(3));
        told.add(x.count(6));
        for (int p = 0; p < 5; p++) {
            for (int what = 2; what < 6; what++) {
                told.add(x.pan(p, what));
            }
        }
        for (int s = 0; s < 3; s++) {
            told.add(x.singer(s, 3));
        }
    }

    private static void undoAll(JamSongs x, List<Integer> told) {
        for (int k = 0; k < 7; k++) {
            told.add(x.undo());
            showWhatActsChange(x, told);
        }
    }

    private static void restoreBoth(JamSongs x, List<Integer> told) {
        told.add(x.restore(1));
        showWhatActsChange(x, told);
        told.add(x.restore(0));
        show(x, told);
    }

    private static void readTape(JamSongs x, List<Integer> told) {
        told.add(x.feed(';'));
        told.add(x.kitchen());
        show(x, told);
        told.add(x.restore(0));
    }

    /** An ITEM of 0 to 7 is read by the modes by which it makes a pan of plums thicker. */
    private static void readRows(JamSongs x, List<Integer> told) {
        Due.feed(x, ";s0,6,9;p0,20,1;");
        told.add(x.kitchen());
        for (int r = 0; r < 8; r++) {
            for (int i = 0; i < 9; i++) {
                told.add(x.modes(0, 0, r, i, 1, 1, 1));
            }
            told.add(x.set(r, 0, 40000));
            told.add(x.drop(r));
        }
    }

    private static void foretell(JamSongs x, List<Integer> told) {
        for (int s = 0; s < 3; s++) {
            told.add(x.alone(s, 0, 0, 8));
            told.add(x.song(s, 3, -1));
            for (int k = 0; k < 3; k++) {
                told.add(x.song(s, 3, k));
            }
        }
        for (int d = 0; d < 9; d++) {
            told.add(x.round(d, 0, 0, 8));
        }
        told.add(x.bestRound(0, 0, 8, 0));
        for (int p = 0; p < 5; p++) {
            told.add(x.toShut(p, 1, 0, 0, 8, 1));
            told.add(x.modes(p, 0, 0, 0, 4, 3, 0));
            told.add(x.coughs(p, 0, 0, 0, 8, 3, 0));
            told.add(x.ask(p, 0));
        }
    }

    private static void singOn(JamSongs x, List<Integer> told) {
        int[][] bars = {{1, 7, 3}, {7, 1, 7}, {2, 1, 3}, {4, 7, 7}, {2, 7, 7}, {0, 5, 7}};
        for (int[] b : bars) {
            told.add(x.bar(b[0], b[1], b[2]));
            showWhatActsChange(x, told);
        }
        told.add(x.window(4, 0, 1));
        told.add(x.image(1));
    }

    private static void fillTape(JamSongs x, List<Integer> told) {
        for (int i = 0; i < 119; i++) {
            told.add(x.feed('1'));
        }
        told.add(x.kitchen());
        told.add(x.fault());
    }
}
