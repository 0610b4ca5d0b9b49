import java.math.BigInteger;
import java.util.ArrayDeque;
import java.util.ArrayList;
import java.util.Arrays;
import java.util.Deque;
import java.util.List;
import java.util.regex.Matcher;
import java.util.regex.Pattern;

/** The document read a second time, slowly and with the whole Java library, to be compared with the program. */
final class Model {
    static final int NONE = -1000000, BAD = -1000001, STATE = -1000002, FULL = -1000003;

    /** Nothing in it is ever changed but by its own bar. */
    private static final class State {
        char[] sort = {};
        int[] low = {}, high = {}, breath = {}, sung = {};
        int[] mode = {}, needs = {}, hears = {}, thick = {};
        Integer[] heard = {};
        boolean[] set = {};
        int back, bar;

        State twin() {
            State t = new State();
            t.sort = sort;
            t.low = low;
            t.high = high;
            t.breath = breath;
            t.needs = needs;
            t.sung = sung.clone();
            t.mode = mode.clone();
            t.hears = hears.clone();
            t.thick = thick.clone();
            t.heard = heard.clone();
            t.set = set.clone();
            t.back = back;
            t.bar = bar;
            return t;
        }

        boolean can(int s, int note) {
            return note == 7 || low[s] <= note && note <= high[s] && sung[s] != breath[s];
        }

        /** The state a bar later; who cannot sing its note rests. */
        State after(int... notes) {
            State t = twin();
            int[] voices = new int[low.length];
            for (int s = 0; s < voices.length; s++) {
                voices[s] = can(s, notes[s]) ? notes[s] : 7;
                t.sung[s] = voices[s] == 7 ? 0 : sung[s] + 1;
            }
            for (int p = 0; p < sort.length; p++) {
                if (!set[p]) {
                    t.hear(p, voices);
                }
            }
            t.bar = bar + 1;
            return t;
        }

        void hear(int p, int[] voices) {
            List<Integer> notes = new ArrayList<>();
            for (int s = 0; s < voices.length; s++) {
                if ((hears[p] & 1 << s) != 0 && voices[s] < 7) {
                    notes.add(voices[s]);
                }
            }
            Integer least = notes.stream().min(Integer::compare).orElse(null);
            boolean right = notes.stream().allMatch(n -> (mode[p] & 1 << n) != 0);
            if (sort[p] == 'q' && least != null) {
                right &= heard[p] != null && (least == heard[p] + 2 || least == heard[p] - 2);
            }
            if (sort[p] == 'd') {
                thick[p] = least == null ? thick[p] + 1 : 0;
            } else if (sort[p] != 'm' && least != null) {
                int less = sort[p] == 'c' ? thick[p] : Math.min(thick[p], back);
                thick[p] = right ? thick[p] + 1 : thick[p] - less;
            }
            set[p] = thick[p] == needs[p];
            heard[p] = set[p] ? null : least;
        }

        int bits() {
            int b = 0;
            for (int p = 0; p < set.length; p++) {
                b += set[p] ? 1 << p : 0;
            }
            return b;
        }

        State solo(int singer, List<Integer> notes) {
            State t = this;
            for (int note : notes) {
                int[] voices = {7, 7, 7};
                voices[singer] = note;
                t = t.after(voices);
            }
            return t;
        }

        State round(int d, List<Integer> notes) {
            int last = low.length == 0 ? notes.size() : (low.length - 1) * d + notes.size();
            State t = this;
            for (int b = 0; b < last; b++) {
                int[] voices = {7, 7, 7};
                for (int s = 0; s < low.length; s++) {
                    boolean on = b >= s * d && b < s * d + notes.size();
                    voices[s] = on ? notes.get(b - s * d) : 7;
                }
                t = t.after(voices);
            }
            return t;
        }
    }

    private final int[] lane = new int[8];
    private final int[][] rows = new int[8][];
    private String tape = "";
    private State state = null;
    private final State[] images = new State[2];
    private final Deque<State> acts = new ArrayDeque<>();
    private int fault = 0;
    private int status = 0;
    private List<Integer> trace = new ArrayList<>();

    private static boolean in(int v, int least, int most) {
        return v >= least && v <= most;
    }

    private int found(int k) {
        status = k;
        return -1000010 - k;
    }

    private int fine(int v) {
        status = 0;
        return v;
    }

    private boolean isPan(int p) {
        return state != null && in(p, 0, state.sort.length - 1);
    }

    private boolean isSinger(int s) {
        return state != null && in(s, 0, state.low.length - 1);
    }

    int row(int row, int l, int n) {
        if (!in(row, 0, 7) || !in(l, 0, 2) || n > 40) {
            return BAD;
        }
        if (n < 0) {
            return found(4);
        }
        lane[row] = l;
        rows[row] = new int[n];
        return fine(n);
    }

    int set(int row, int i, int v) {
        if (!in(row, 0, 7)) {
            return BAD;
        }
        if (rows[row] == null) {
            return found(1);
        }
        if (!in(i, 0, rows[row].length - 1)) {
            return found(2);
        }
        rows[row][i] = lane[row] == 0 ? (byte) v : lane[row] == 1 ? (short) v : v;
        return fine(rows[row][i]);
    }

    int copy(int a, int i, int b, int j, int n) {
        if (!in(a, 0, 7) || !in(b, 0, 7)) {
            return BAD;
        }
        if (rows[a] == null || rows[b] == null) {
            return found(1);
        }
        if (lane[a] != lane[b]) {
            return found(5);
        }
        if (i < 0 || j < 0 || n < 0 || (long) i + n > rows[a].length || (long) j + n > rows[b].length) {
            return found(2);
        }
        int[] ahead = rows[a].clone();
        for (int k = 0; k < n; k++) {
            rows[b][j + k] = ahead[i + k];
        }
        return fine(n);
    }

    int drop(int row) {
        if (!in(row, 0, 7)) {
            return BAD;
        }
        if (rows[row] == null) {
            return found(1);
        }
        int n = rows[row].length;
        rows[row] = null;
        return fine(n);
    }

    int feed(int letter) {
        if (!in(letter, 0, 255)) {
            return BAD;
        }
        if (tape.length() == 120) {
            return FULL;
        }
        tape += (char) letter;
        return tape.length();
    }

    int kitchen() {
        Matcher m = Pattern.compile("[a-z]|[0-9]+|[,;]|(?s:.)").matcher(tape);
        List<String> tokens = new ArrayList<>();
        List<Integer> places = new ArrayList<>();
        while (m.find()) {
            tokens.add(m.group());
            places.add(m.start());
        }
        tokens.add("end");
        places.add(tape.length());
        tape = "";
        State t = new State();
        int[] wrong = read(tokens, t);
        if (wrong != null) {
            fault = wrong[1];
            return -1000100 - places.get(wrong[0]);
        }
        state = t;
        acts.clear();
        return t.sort.length;
    }

    /** The grammar as a chain of what is due next: a letter, a sign, or a number between two others. */
    private static int[] read(List<String> tokens, State t) {
        String due = "j";
        int low = 0;
        for (int k = 0; k < tokens.size(); k++) {
            String token = tokens.get(k);
            boolean number = token.matches("[0-9]{1,3}");
            char next = due.charAt(0);
            if (next == '#' ? !number : next == '*' ? !token.matches("[spcqmd]|end") : next == '+'
                    ? !token.matches("[pcqmd]|end") : !token.equals(due.substring(0, 1))) {
                return new int[] {k, 1};
            }
            if (next == '*' || next == '+') {
                if (token.equals("end")) {
                    return null;
                }
                boolean singer = token.equals("s");
                if (singer ? t.low.length == 3 : t.sort.length == 5) {
                    return new int[] {k, 3};
                }
                due = singer ? "#L,#H,#B;*" : "#M,#N,#E;+";
                if (singer) {
                    t.sung = new int[t.low.length + 1];
                } else {
                    t.sort = Arrays.copyOf(t.sort, t.sort.length + 1);
                    t.sort[t.sort.length - 1] = token.charAt(0);
                }
            } else if (next == '#') {
                int v = Integer.parseInt(token);
                char what = due.charAt(1);
                int least = what == 'H' ? low : what == 'B' || what == 'N' || what == 'J' ? 1 : 0;
                int most = what == 'L' || what == 'H' ? 6 : what == 'B' || what == 'J' ? 9 : what == 'M' ? 127
                    : what == 'N' ? 20 : (1 << t.low.length) - 1;
                if (!in(v, least, most)) {
                    return new int[] {k, 2};
                }
                low = v;
                put(t, what, v);
                due = due.substring(2);
            } else {
                due = token.equals("j") ? "#J;*" : due.substring(1);
            }
        }
        throw new IllegalStateException();
    }

    private static int[] more(int[] a, int v) {
        int[] b = Arrays.copyOf(a, a.length + 1);
        b[a.length] = v;
        return b;
    }

    private static void put(State t, char what, int v) {
        switch (what) {
            case 'J' -> t.back = v;
            case 'L' -> t.low = more(t.low, v);
            case 'H' -> t.high = more(t.high, v);
            case 'B' -> t.breath = more(t.breath, v);
            case 'M' -> t.mode = more(t.mode, v);
            case 'N' -> t.needs = more(t.needs, v);
            default -> {
                t.hears = more(t.hears, v);
                t.thick = new int[t.hears.length];
                t.heard = new Integer[t.hears.length];
                t.set = new boolean[t.hears.length];
            }
        }
    }

    int fault() {
        return fault;
    }

    private void act(State next) {
        acts.push(state);
        if (acts.size() > 24) {
            acts.removeLast();
        }
        state = next;
    }

    int bar(int a, int b, int c) {
        if (state == null) {
            return STATE;
        }
        int[] notes = {a, b, c};
        for (int s = 0; s < 3; s++) {
            if (!in(notes[s], isSinger(s) ? 0 : 7, 7)) {
                return BAD;
            }
        }
        for (int s = 0; s < state.low.length; s++) {
            if (!state.can(s, notes[s])) {
                return STATE;
            }
        }
        act(state.after(notes));
        return state.bits();
    }

    int window(int pan, int singer, int is) {
        if (!isPan(pan) || !isSinger(singer) || !in(is, 0, 1)) {
            return BAD;
        }
        boolean open = (state.hears[pan] & 1 << singer) != 0;
        if (open == (is == 1)) {
            return STATE;
        }
        State t = state.twin();
        t.hears[pan] += is == 1 ? 1 << singer : -(1 << singer);
        act(t);
        return 1;
    }

    int undo() {
        if (acts.isEmpty()) {
            return STATE;
        }
        state = acts.pop();
        return acts.size();
    }

    int pan(int p, int what) {
        if (!isPan(p) || !in(what, 0, 5)) {
            return BAD;
        }
        int heard = state.heard[p] == null ? NONE : state.heard[p];
        return new int[] {state.mode[p], state.needs[p], state.hears[p], state.thick[p], state.set[p] ? 1 : 0, heard}[what];
    }

    int singer(int s, int what) {
        if (!isSinger(s) || !in(what, 0, 3)) {
            return BAD;
        }
        return new int[] {state.low[s], state.high[s], state.breath[s], state.sung[s]}[what];
    }

    /** The tune, or null; then the refusal is in refused. */
    private int refused;

    private List<Integer> tune(int row, int i, int n) {
        if (rows[row] == null) {
            refused = found(1);
            return null;
        }
        if (i < 0 || (long) i + n > rows[row].length) {
            refused = found(2);
            return null;
        }
        List<Integer> notes = new ArrayList<>();
        for (int k = i; k < i + n; k++) {
            if (!in(rows[row][k], 0, 7)) {
                refused = BAD;
                return null;
            }
            notes.add(rows[row][k]);
        }
        return notes;
    }

    int alone(int singer, int row, int i, int n) {
        if (!isSinger(singer) || !in(row, 0, 7) || !in(n, 0, 16)) {
            return BAD;
        }
        List<Integer> notes = tune(row, i, n);
        return notes == null ? refused : fine(state.solo(singer, notes).bits());
    }

    int round(int d, int row, int i, int n) {
        if (state == null) {
            return STATE;
        }
        if (!in(d, 0, 8) || !in(row, 0, 7) || !in(n, 0, 16)) {
            return BAD;
        }
        List<Integer> notes = tune(row, i, n);
        return notes == null ? refused : fine(state.round(d, notes).bits());
    }

    int bestRound(int row, int i, int n, int what) {
        if (state == null) {
            return STATE;
        }
        if (!in(row, 0, 7) || !in(n, 0, 16) || !in(what, 0, 1)) {
            return BAD;
        }
        List<Integer> notes = tune(row, i, n);
        if (notes == null) {
            return refused;
        }
        int[] many = new int[9];
        for (int d = 0; d < 9; d++) {
            many[d] = Integer.bitCount(state.round(d, notes).bits());
        }
        int most = Arrays.stream(many).max().getAsInt();
        for (int d = 0; d < 9; d++) {
            if (many[d] == most) {
                return fine(what == 0 ? d : most);
            }
        }
        throw new IllegalStateException();
    }

    private record Song(List<Integer> notes, int set) {
        long sung() {
            return notes.stream().filter(n -> n < 7).count();
        }
    }

    private static List<Song> songs(State t, int singer, int n, List<Integer> before) {
        List<Song> all = new ArrayList<>();
        if (n == 0) {
            all.add(new Song(before, Integer.bitCount(t.bits())));
            return all;
        }
        for (int note = 0; note < 8; note++) {
            if (t.can(singer, note)) {
                List<Integer> longer = new ArrayList<>(before);
                longer.add(note);
                all.addAll(songs(t.solo(singer, List.of(note)), singer, n - 1, longer));
            }
        }
        return all;
    }

    int song(int singer, int n, int k) {
        if (!isSinger(singer) || !in(n, 0, 4) || !in(k, -1, n - 1)) {
            return BAD;
        }
        List<Song> all = songs(state, singer, n, List.of());
        int most = all.stream().mapToInt(Song::set).max().getAsInt();
        long fewest = all.stream().filter(s -> s.set == most).mapToLong(Song::sung).min().getAsLong();
        Song best = all.stream().filter(s -> s.set == most && s.sung() == fewest).findFirst().get();
        return k < 0 ? most : best.notes.get(k);
    }

    int toShut(int pan, int d, int row, int i, int n, int what) {
        if (!isPan(pan) || !in(d, 0, 8) || !in(row, 0, 7) || !in(n, 0, 16) || !in(what, 0, 1)) {
            return BAD;
        }
        List<Integer> notes = tune(row, i, n);
        if (notes == null) {
            return refused;
        }
        for (int many = 0; many <= 3; many++) {
            for (int shut = 0; shut < 8; shut++) {
                State t = state.twin();
                t.hears[pan] -= shut;
                boolean heard = (state.hears[pan] | shut) == state.hears[pan];
                if (heard && Integer.bitCount(shut) == many && t.round(d, notes).set[pan]) {
                    return fine(what == 0 ? many : shut);
                }
            }
        }
        return fine(NONE);
    }

    int modes(int pan, int singer, int row, int i, int n, int thick, int what) {
        if (!isPan(pan) || !isSinger(singer) || !in(row, 0, 7) || !in(n, 0, 16) || !in(thick, 0, 20)
                || !in(what, 0, 1)) {
            return BAD;
        }
        List<Integer> notes = tune(row, i, n);
        if (notes == null) {
            return refused;
        }
        List<Integer> fit = new ArrayList<>();
        for (int mode = 0; mode < 128; mode++) {
            State t = state.twin();
            t.mode[pan] = mode;
            if (t.solo(singer, notes).thick[pan] == thick) {
                fit.add(mode);
            }
        }
        return fine(what == 0 ? fit.size() : fit.isEmpty() ? NONE : fit.get(0));
    }

    private static BigInteger cases(State t, int pan, int singer, List<Integer> notes, int c) {
        if (notes.isEmpty()) {
            return t.set[pan] ? BigInteger.ONE : BigInteger.ZERO;
        }
        List<Integer> rest = notes.subList(1, notes.size());
        BigInteger sung = cases(t.solo(singer, notes.subList(0, 1)), pan, singer, rest, c);
        BigInteger coughed = cases(t.solo(singer, List.of(7)), pan, singer, rest, c);
        return sung.multiply(BigInteger.valueOf(10 - c)).add(coughed.multiply(BigInteger.valueOf(c)));
    }

    int coughs(int pan, int singer, int row, int i, int n, int c, int what) {
        if (!isPan(pan) || !isSinger(singer) || !in(row, 0, 7) || !in(n, 0, 8) || !in(c, 0, 10) || !in(what, 0, 1)) {
            return BAD;
        }
        List<Integer> notes = tune(row, i, n);
        if (notes == null) {
            return refused;
        }
        BigInteger above = cases(state, pan, singer, notes, c);
        BigInteger below = BigInteger.TEN.pow(n);
        return fine((what == 0 ? above : below).divide(above.gcd(below)).intValueExact());
    }

    int image(int k) {
        if (!in(k, 0, 1)) {
            return BAD;
        }
        if (state == null) {
            return STATE;
        }
        images[k] = state;
        return 1;
    }

    int restore(int k) {
        if (!in(k, 0, 1)) {
            return BAD;
        }
        if (images[k] == null) {
            return STATE;
        }
        state = images[k];
        acts.clear();
        return 1;
    }

    /** The kinds as Java itself has them: an ask begins in the nearest class that tells the body. */
    private interface Fruit {
        List<Integer> trace();

        int number();

        int needs();

        int thick();

        default int size() {
            trace().add(10);
            return needs();
        }

        default int mark() {
            trace().add(20);
            return number();
        }
    }

    private static class Plum implements Fruit {
        final List<Integer> trace;
        final int number, needs, thick;

        Plum(List<Integer> trace, int number, int needs, int thick) {
            this.trace = trace;
            this.number = number;
            this.needs = needs;
            this.thick = thick;
        }

        public List<Integer> trace() {
            return trace;
        }

        public int number() {
            return number;
        }

        public int needs() {
            return needs;
        }

        public int thick() {
            return thick;
        }

        public int size() {
            trace.add(11);
            return Fruit.super.size() + mark();
        }

        public int mark() {
            trace.add(21);
            return Fruit.super.mark() + thick();
        }
    }

    private static final class Cherry extends Plum {
        Cherry(List<Integer> trace, int number, int needs, int thick) {
            super(trace, number, needs, thick);
        }

        public int size() {
            trace.add(12);
            return -super.size();
        }

        public int mark() {
            trace.add(24);
            return 2 * super.mark();
        }
    }

    private static final class Quince extends Plum {
        Quince(List<Integer> trace, int number, int needs, int thick) {
            super(trace, number, needs, thick);
        }

        public int mark() {
            trace.add(22);
            return super.mark() - 1000;
        }
    }

    private static class Marrow implements Fruit {
        final List<Integer> trace;
        final int number, needs;

        Marrow(List<Integer> trace, int number, int needs) {
            this.trace = trace;
            this.number = number;
            this.needs = needs;
        }

        public List<Integer> trace() {
            return trace;
        }

        public int number() {
            return number;
        }

        public int needs() {
            return needs;
        }

        public int thick() {
            return 0;
        }

        public int size() {
            trace.add(13);
            return Fruit.super.size() - 100;
        }

        public int mark() {
            trace.add(23);
            return Fruit.super.mark() - size();
        }
    }

    private static final class Damson extends Marrow {
        Damson(List<Integer> trace, int number, int needs) {
            super(trace, number, needs);
        }

        public int size() {
            trace.add(14);
            return 2 * super.size();
        }
    }

    private Fruit fruit(int p, List<Integer> into) {
        int needs = state.needs[p];
        int thick = state.thick[p];
        return switch (state.sort[p]) {
            case 'p' -> new Plum(into, p, needs, thick);
            case 'c' -> new Cherry(into, p, needs, thick);
            case 'q' -> new Quince(into, p, needs, thick);
            case 'm' -> new Marrow(into, p, needs);
            default -> new Damson(into, p, needs);
        };
    }

    int kind(int pan) {
        return isPan(pan) ? " pcqmd".indexOf(state.sort[pan]) : BAD;
    }

    int as(int pan, int kind) {
        if (!isPan(pan) || !in(kind, 0, 5)) {
            return BAD;
        }
        Class<?>[] kinds = {Fruit.class, Plum.class, Cherry.class, Quince.class, Marrow.class, Damson.class};
        return kinds[kind].isInstance(fruit(pan, null)) ? fine(pan) : found(3);
    }

    int ask(int pan, int what) {
        if (!isPan(pan) || !in(what, 0, 1)) {
            return BAD;
        }
        trace = new ArrayList<>();
        Fruit f = fruit(pan, trace);
        return what == 0 ? f.size() : f.mark();
    }

    int trace(int i) {
        return in(i, 0, Math.min(trace.size(), 16) - 1) ? trace.get(i) : NONE;
    }

    int count(int what) {
        if (!in(what, 0, 7)) {
            return BAD;
        }
        if (what == 0) {
            return (int) Arrays.stream(rows).filter(r -> r != null).count();
        }
        if (what == 7) {
            return tape.length();
        }
        if (state == null) {
            return 0;
        }
        return new int[] {0, state.low.length, state.sort.length, state.bar, state.back, state.bits(), acts.size()}[what];
    }

    int status() {
        return status;
    }
}
