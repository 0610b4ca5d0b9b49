import java.util.Arrays;

/** Jam that sets only if it is sung to. What each call answers is told, promise by promise, in the document. */
public final class JamSongs {
    public static final int NONE = -1000000, BAD = -1000001, STATE = -1000002, FULL = -1000003;

    private static final int FOUND = -1000010, FAULTY = -1000100;
    private static final int NULL = 1, PLACE = 2, KIND = 3, SIZE = 4, STORE = 5;
    private static final int ROWS = 8, ITEMS = 40, BYTES = 120, SINGERS = 3, PANS = 5;
    private static final int IMAGES = 2, ACTS = 24, TRACED = 16;
    private static final int TUNE = 16, COUGHED = 8, SONG = 4, APART = 8;
    private static final int MODES = 128, THICKEST = 20, TEN = 10;
    private static final int REST = 7;
    private static final int PLUM = 1, CHERRY = 2, QUINCE = 3, MARROW = 4, DAMSON = 5;
    private static final int[] NEAREST = {0, 0, PLUM, PLUM, 0, MARROW};

    private final Row[] rows = new Row[ROWS];
    private final Tape tape = new Tape();
    private final Kitchen now = new Kitchen();
    /** What is foretold, and what is being read, happens here, so that nothing else changes by it. */
    private final Kitchen trial = new Kitchen();
    private final Kitchen[] images = new Kitchen[IMAGES];
    private final int[][] acts = new int[ACTS][Kitchen.KEPT];
    private int kept = 0;
    private int nextAct = 0;
    private final int[] voices = new int[SINGERS];
    private final int[] tune = new int[TUNE];
    private final int[][] songBars = new int[SONG][Kitchen.KEPT];
    private int bestSong = 0;
    private int bestSet = 0;
    private int bestNotes = 0;
    private final int[] traced = new int[TRACED];
    private int bodies = 0;
    private int latestFault = 0;
    private int latestFinding = 0;

    public JamSongs() {
        for (int r = 0; r < ROWS; r++) {
            rows[r] = new Row();
        }
        for (int k = 0; k < IMAGES; k++) {
            images[k] = new Kitchen();
        }
    }

    // ---- rows

    public int row(int row, int lane, int n) {
        if (isNot(row, ROWS) || isNot(lane, 3) || n > ITEMS) {
            return BAD;
        }
        if (n < 0) {
            return found(SIZE);
        }
        rows[row].begin(lane, n);
        return fine(n);
    }

    public int set(int row, int i, int v) {
        if (isNot(row, ROWS)) {
            return BAD;
        }
        Row r = rows[row];
        if (!r.there) {
            return found(NULL);
        }
        if (!r.reaches(i, 1)) {
            return found(PLACE);
        }
        r.items[i] = r.cut(v);
        return fine(r.items[i]);
    }

    public int copy(int a, int i, int b, int j, int n) {
        if (isNot(a, ROWS) || isNot(b, ROWS)) {
            return BAD;
        }
        Row from = rows[a];
        Row to = rows[b];
        if (!from.there || !to.there) {
            return found(NULL);
        }
        if (from.lane != to.lane) {
            return found(STORE);
        }
        if (!from.reaches(i, n) || !to.reaches(j, n)) {
            return found(PLACE);
        }
        System.arraycopy(from.items, i, to.items, j, n);
        return fine(n);
    }

    public int drop(int row) {
        if (isNot(row, ROWS)) {
            return BAD;
        }
        Row r = rows[row];
        if (!r.there) {
            return found(NULL);
        }
        r.there = false;
        return fine(r.size);
    }

    // ---- kitchens, acts

    public int feed(int letter) {
        if (isNot(letter, 256)) {
            return BAD;
        }
        if (tape.size >= BYTES) {
            return FULL;
        }
        tape.bytes[tape.size] = letter;
        tape.size++;
        return tape.size;
    }

    public int kitchen() {
        tape.readInto(trial);
        tape.size = 0;
        if (tape.fault != 0) {
            latestFault = tape.fault;
            return FAULTY - tape.place;
        }
        now.takeFrom(trial);
        kept = 0;
        return now.pans;
    }

    public int fault() {
        return latestFault;
    }

    public int bar(int first, int second, int third) {
        if (!now.told) {
            return STATE;
        }
        voices[0] = first;
        voices[1] = second;
        voices[2] = third;
        for (int s = 0; s < SINGERS; s++) {
            if (isNot(voices[s], REST + 1) || s >= now.singers && voices[s] != REST) {
                return BAD;
            }
        }
        for (int s = 0; s < now.singers; s++) {
            if (!now.can(s, voices[s])) {
                return STATE;
            }
        }
        keepAct();
        now.singBar(voices);
        return now.setPans();
    }

    public int window(int pan, int singer, int is) {
        if (isNot(pan, now.pans) || isNot(singer, now.singers) || isNot(is, 2)) {
            return BAD;
        }
        if ((now.hears[pan] >> singer & 1) == is) {
            return STATE;
        }
        keepAct();
        now.hears[pan] ^= 1 << singer;
        return 1;
    }

    public int undo() {
        if (kept <= 0) {
            return STATE;
        }
        kept--;
        nextAct = nextAct == 0 ? ACTS - 1 : nextAct - 1;
        now.bring(acts[nextAct]);
        return kept;
    }

    public int pan(int pan, int what) {
        if (isNot(pan, now.pans)) {
            return BAD;
        }
        switch (what) {
            case 0: return now.mode[pan];
            case 1: return now.needs[pan];
            case 2: return now.hears[pan];
            case 3: return now.thick[pan];
            case 4: return now.isSet(pan) ? 1 : 0;
            case 5: return now.heard[pan];
            default: return BAD;
        }
    }

    public int singer(int singer, int what) {
        if (isNot(singer, now.singers)) {
            return BAD;
        }
        switch (what) {
            case 0: return now.low[singer];
            case 1: return now.high[singer];
            case 2: return now.breath[singer];
            case 3: return now.sung[singer];
            default: return BAD;
        }
    }

    // ---- foretold

    public int alone(int singer, int row, int i, int n) {
        if (isNot(singer, now.singers) || isNot(row, ROWS) || isNot(n, TUNE + 1)) {
            return BAD;
        }
        int refusal = takeTune(rows[row], i, n);
        if (refusal != 0) {
            return refusal;
        }
        trial.takeFrom(now);
        trySolo(singer, n, 0);
        return fine(trial.setPans());
    }

    public int round(int d, int row, int i, int n) {
        if (!now.told) {
            return STATE;
        }
        if (isNot(d, APART + 1) || isNot(row, ROWS) || isNot(n, TUNE + 1)) {
            return BAD;
        }
        int refusal = takeTune(rows[row], i, n);
        if (refusal != 0) {
            return refusal;
        }
        trial.takeFrom(now);
        tryRound(d, n);
        return fine(trial.setPans());
    }

    public int bestRound(int row, int i, int n, int what) {
        if (!now.told) {
            return STATE;
        }
        if (isNot(row, ROWS) || isNot(n, TUNE + 1) || isNot(what, 2)) {
            return BAD;
        }
        int refusal = takeTune(rows[row], i, n);
        if (refusal != 0) {
            return refusal;
        }
        int best = 0;
        int most = -1;
        for (int d = 0; d <= APART; d++) {
            trial.takeFrom(now);
            tryRound(d, n);
            int many = Integer.bitCount(trial.setPans());
            if (many > most) {
                most = many;
                best = d;
            }
        }
        return fine(what == 0 ? best : most);
    }

    public int song(int singer, int n, int k) {
        if (isNot(singer, now.singers) || isNot(n, SONG + 1) || k < -1 || k >= n) {
            return BAD;
        }
        seekSong(singer, n);
        return k < 0 ? bestSet : noteOf(bestSong, n, k);
    }

    public int toShut(int pan, int d, int row, int i, int n, int what) {
        if (isNot(pan, now.pans) || isNot(d, APART + 1) || isNot(row, ROWS)
                || isNot(n, TUNE + 1) || isNot(what, 2)) {
            return BAD;
        }
        int refusal = takeTune(rows[row], i, n);
        if (refusal != 0) {
            return refusal;
        }
        int fewest = SINGERS + 1;
        int which = NONE;
        for (int shut = 0; shut < 1 << SINGERS; shut++) {
            int many = Integer.bitCount(shut);
            if ((shut & ~now.hears[pan]) == 0 && many < fewest && setsWithout(pan, shut, d, n)) {
                fewest = many;
                which = shut;
            }
        }
        return fine(what == 0 && which != NONE ? fewest : which);
    }

    public int modes(int pan, int singer, int row, int i, int n, int thick, int what) {
        if (isNot(pan, now.pans) || isNot(singer, now.singers) || isNot(row, ROWS)
                || isNot(n, TUNE + 1) || isNot(thick, THICKEST + 1) || isNot(what, 2)) {
            return BAD;
        }
        int refusal = takeTune(rows[row], i, n);
        if (refusal != 0) {
            return refusal;
        }
        int many = 0;
        int least = NONE;
        for (int mode = 0; mode < MODES; mode++) {
            trial.takeFrom(now);
            trial.mode[pan] = mode;
            trySolo(singer, n, 0);
            if (trial.thick[pan] == thick) {
                least = many == 0 ? mode : least;
                many++;
            }
        }
        return fine(what == 0 ? many : least);
    }

    public int coughs(int pan, int singer, int row, int i, int n, int c, int what) {
        if (isNot(pan, now.pans) || isNot(singer, now.singers) || isNot(row, ROWS)
                || isNot(n, COUGHED + 1) || isNot(c, TEN + 1) || isNot(what, 2)) {
            return BAD;
        }
        int refusal = takeTune(rows[row], i, n);
        if (refusal != 0) {
            return refusal;
        }
        int above = 0;
        for (int coughed = 0; coughed < 1 << n; coughed++) {
            int weight = weightOf(coughed, n, c);
            if (weight > 0) {
                trial.takeFrom(now);
                trySolo(singer, n, coughed);
                above += trial.isSet(pan) ? weight : 0;
            }
        }
        int below = power(TEN, n);
        int common = commonDivisor(above, below);
        return fine((what == 0 ? above : below) / common);
    }

    public int image(int k) {
        if (isNot(k, IMAGES)) {
            return BAD;
        }
        if (!now.told) {
            return STATE;
        }
        images[k].takeFrom(now);
        return 1;
    }

    public int restore(int k) {
        if (isNot(k, IMAGES)) {
            return BAD;
        }
        if (!images[k].told) {
            return STATE;
        }
        now.takeFrom(images[k]);
        kept = 0;
        return 1;
    }

    // ---- asked

    public int kind(int pan) {
        return isNot(pan, now.pans) ? BAD : now.kind[pan];
    }

    public int as(int pan, int kind) {
        if (isNot(pan, now.pans) || isNot(kind, DAMSON + 1)) {
            return BAD;
        }
        return isOf(now.kind[pan], kind) ? fine(pan) : found(KIND);
    }

    public int ask(int pan, int what) {
        if (isNot(pan, now.pans) || isNot(what, 2)) {
            return BAD;
        }
        bodies = 0;
        boolean ofPlums = isOf(now.kind[pan], PLUM);
        if (what == 0) {
            return ofPlums ? sizeOfPlums(pan) : sizeOfMarrows(pan);
        }
        return ofPlums ? markOfPlums(pan) : markOfMarrows(pan);
    }

    public int trace(int i) {
        return isNot(i, bodies) ? NONE : traced[i];
    }

    public int count(int what) {
        switch (what) {
            case 0: return rowsThere();
            case 1: return now.singers;
            case 2: return now.pans;
            case 3: return now.bar;
            case 4: return now.back;
            case 5: return now.setPans();
            case 6: return kept;
            case 7: return tape.size;
            default: return BAD;
        }
    }

    public int status() {
        return latestFinding;
    }

    // ---- refusals and findings

    private static boolean isNot(int number, int bound) {
        return number < 0 || number >= bound;
    }

    private int found(int finding) {
        latestFinding = finding;
        return FOUND - finding;
    }

    private int fine(int answer) {
        latestFinding = 0;
        return answer;
    }

    private int rowsThere() {
        int many = 0;
        for (int r = 0; r < ROWS; r++) {
            many += rows[r].there ? 1 : 0;
        }
        return many;
    }

    /** Of more acts than are kept the oldest is written over. */
    private void keepAct() {
        now.keep(acts[nextAct]);
        nextAct = nextAct == ACTS - 1 ? 0 : nextAct + 1;
        kept = Math.min(kept + 1, ACTS);
    }

    // ---- trials

    /** The refusal, or 0: then the tune is taken out of the row. */
    private int takeTune(Row row, int i, int n) {
        if (!row.there) {
            return found(NULL);
        }
        if (!row.reaches(i, n)) {
            return found(PLACE);
        }
        for (int b = 0; b < n; b++) {
            if (isNot(row.items[i + b], REST + 1)) {
                return BAD;
            }
            tune[b] = row.items[i + b];
        }
        return 0;
    }

    /** The tune by one, who rests in the bars whose bits are in coughed. */
    private void trySolo(int singer, int n, int coughed) {
        for (int b = 0; b < n; b++) {
            Arrays.fill(voices, REST);
            if ((coughed >> b & 1) == 0) {
                voices[singer] = tune[b];
            }
            trial.tryBar(voices);
        }
    }

    private void tryRound(int d, int n) {
        int wait = trial.singers == 0 ? 0 : (trial.singers - 1) * d;
        for (int b = 0; b < wait + n; b++) {
            Arrays.fill(voices, REST);
            for (int s = 0; s < trial.singers; s++) {
                int at = b - s * d;
                if (at >= 0 && at < n) {
                    voices[s] = tune[at];
                }
            }
            trial.tryBar(voices);
        }
    }

    private boolean setsWithout(int pan, int shut, int d, int n) {
        trial.takeFrom(now);
        trial.hears[pan] &= ~shut;
        tryRound(d, n);
        return trial.isSet(pan);
    }

    /**
     * A song's number has three bits for each bar, the first bar's highest: so the numbers stand in the
     * order that the document asks for. What stood ahead of each bar is kept, as neighbours begin alike.
     */
    private void seekSong(int singer, int n) {
        bestSet = -1;
        trial.takeFrom(now);
        trial.keep(songBars[0]);
        int song = 0;
        while (song < 1 << (3 * n)) {
            int cannot = trySong(singer, n, song);
            if (cannot >= n) {
                weighSong(song, n);
                song++;
            } else {
                int behind = 3 * (n - 1 - cannot);
                song = ((song >> behind) + 1) << behind;
            }
        }
    }

    /** The first bar that the singer cannot sing so; n if there is none. */
    private int trySong(int singer, int n, int song) {
        int alike = song == 0 ? 0 : n - 1 - Integer.numberOfTrailingZeros(song) / 3;
        trial.bring(songBars[alike]);
        for (int b = alike; b < n; b++) {
            trial.keep(songBars[b]);
            int note = noteOf(song, n, b);
            if (!trial.can(singer, note)) {
                return b;
            }
            Arrays.fill(voices, REST);
            voices[singer] = note;
            trial.singBar(voices);
        }
        return n;
    }

    private void weighSong(int song, int n) {
        int many = Integer.bitCount(trial.setPans());
        int notes = 0;
        for (int b = 0; b < n; b++) {
            notes += noteOf(song, n, b) == REST ? 0 : 1;
        }
        if (many > bestSet || many == bestSet && notes < bestNotes) {
            bestSong = song;
            bestSet = many;
            bestNotes = notes;
        }
    }

    private static int noteOf(int song, int n, int b) {
        return (song >> (3 * (n - 1 - b))) & 7;
    }

    /** In how many of ten to the n cases just these bars are coughed in. */
    private static int weightOf(int coughed, int n, int c) {
        int coughs = Integer.bitCount(coughed);
        return power(c, coughs) * power(TEN - c, n - coughs);
    }

    private static int power(int base, int times) {
        int product = 1;
        for (int t = 0; t < times; t++) {
            product *= base;
        }
        return product;
    }

    /** At least 1; two numbers of an int need fewer than fifty steps. */
    private static int commonDivisor(int a, int b) {
        int more = a;
        int less = b;
        for (int step = 0; step < 100 && less != 0; step++) {
            int left = more % less;
            more = less;
            less = left;
        }
        return Math.max(more, 1);
    }

    // ---- bodies

    private static boolean isOf(int kind, int asked) {
        int at = kind;
        for (int step = 0; step < NEAREST.length && at > 0 && at < NEAREST.length && at != asked; step++) {
            at = NEAREST[at];
        }
        return at == asked;
    }

    private void leave(int body) {
        if (bodies < TRACED) {
            traced[bodies] = body;
            bodies++;
        }
    }

    private int lentSize(int pan) {
        leave(10);
        return now.needs[pan];
    }

    private int sizeOfPlums(int pan) {
        if (now.kind[pan] == CHERRY) {
            leave(12);
            return -plumSize(pan);
        }
        return plumSize(pan);
    }

    private int plumSize(int pan) {
        leave(11);
        int lent = lentSize(pan);
        return lent + markOfPlums(pan);
    }

    private int sizeOfMarrows(int pan) {
        if (now.kind[pan] == DAMSON) {
            leave(14);
            return 2 * marrowSize(pan);
        }
        return marrowSize(pan);
    }

    private int marrowSize(int pan) {
        leave(13);
        return lentSize(pan) - 100;
    }

    private int lentMark(int pan) {
        leave(20);
        return pan;
    }

    private int markOfPlums(int pan) {
        if (now.kind[pan] == QUINCE) {
            leave(22);
            return plumMark(pan) - 1000;
        }
        if (now.kind[pan] == CHERRY) {
            leave(24);
            return 2 * plumMark(pan);
        }
        return plumMark(pan);
    }

    private int plumMark(int pan) {
        leave(21);
        return lentMark(pan) + now.thick[pan];
    }

    private int markOfMarrows(int pan) {
        leave(23);
        int lent = lentMark(pan);
        return lent - sizeOfMarrows(pan);
    }

    /** Its items stay when it is missing, so that no row is made anew. */
    private static final class Row {
        boolean there = false;
        int lane = 0;
        int size = 0;
        final int[] items = new int[ITEMS];

        void begin(int newLane, int n) {
            there = true;
            lane = newLane;
            size = n;
            Arrays.fill(items, 0);
        }

        /** Tested by a difference, as a sum could wrap around. */
        boolean reaches(int i, int n) {
            return i >= 0 && n >= 0 && i <= size - n;
        }

        int cut(int v) {
            if (lane == 0) {
                return (byte) v;
            }
            return lane == 1 ? (short) v : v;
        }
    }

    /** The text: after the first fault nothing more is taken, so that place stays where the fault is. */
    private static final class Tape {
        static final int END = -1, NOTHING = -2, NUMBER = -3;
        static final int CANNOT_STAND = 1, NOT_AS_TOLD = 2, NO_ROOM = 3;

        final int[] bytes = new int[BYTES];
        int size = 0;
        int place = 0;
        int next = 0;
        int token = END;
        int value = 0;
        int fault = 0;

        void readInto(Kitchen kitchen) {
            kitchen.begin();
            fault = 0;
            next = 0;
            step();
            take('j');
            kitchen.back = takeNumber(1, 9);
            take(';');
            for (int s = 0; s <= SINGERS && fault == 0 && token == 's'; s++) {
                readSinger(kitchen, s);
            }
            for (int p = 0; p <= PANS && fault == 0 && kindOf(token) != 0; p++) {
                readPan(kitchen, p);
            }
            take(END);
        }

        private void readSinger(Kitchen kitchen, int s) {
            if (s >= SINGERS) {
                fault = NO_ROOM;
                return;
            }
            step();
            kitchen.low[s] = takeNumber(0, REST - 1);
            take(',');
            kitchen.high[s] = takeNumber(kitchen.low[s], REST - 1);
            take(',');
            kitchen.breath[s] = takeNumber(1, 9);
            take(';');
            kitchen.singers = s + 1;
        }

        private void readPan(Kitchen kitchen, int p) {
            if (p >= PANS) {
                fault = NO_ROOM;
                return;
            }
            kitchen.kind[p] = kindOf(token);
            step();
            kitchen.mode[p] = takeNumber(0, MODES - 1);
            take(',');
            kitchen.needs[p] = takeNumber(1, THICKEST);
            take(',');
            kitchen.hears[p] = takeNumber(0, (1 << kitchen.singers) - 1);
            take(';');
            kitchen.pans = p + 1;
        }

        private static int kindOf(int letter) {
            switch (letter) {
                case 'p': return PLUM;
                case 'c': return CHERRY;
                case 'q': return QUINCE;
                case 'm': return MARROW;
                case 'd': return DAMSON;
                default: return 0;
            }
        }

        private void take(int due) {
            if (fault != 0) {
                return;
            }
            if (token == due) {
                step();
            } else {
                fault = CANNOT_STAND;
            }
        }

        private int takeNumber(int least, int most) {
            if (fault != 0) {
                return least;
            }
            if (token != NUMBER) {
                fault = CANNOT_STAND;
                return least;
            }
            if (value < least || value > most) {
                fault = NOT_AS_TOLD;
                return least;
            }
            int taken = value;
            step();
            return taken;
        }

        private void step() {
            place = next;
            if (next >= size) {
                token = END;
                return;
            }
            int first = bytes[next];
            if (isFigure(first)) {
                stepNumber();
                return;
            }
            next++;
            boolean stands = first >= 'a' && first <= 'z' || first == ',' || first == ';';
            token = stands ? first : NOTHING;
        }

        private void stepNumber() {
            value = 0;
            while (next < size && isFigure(bytes[next])) {
                // a run of many figures is no number, and must not wrap around into one
                value = Math.min(10 * value + bytes[next] - '0', 1000);
                next++;
            }
            token = next - place <= 3 ? NUMBER : NOTHING;
        }

        private static boolean isFigure(int letter) {
            return letter >= '0' && letter <= '9';
        }
    }

    /** What was told, and how it stands now. */
    private static final class Kitchen {
        /** How many numbers say how it stands: all that an act can change. */
        static final int KEPT = 1 + SINGERS + 3 * PANS;
        static final int STILL = 0, RIGHT = 1, WRONG = 2;

        boolean told = false;
        int back = 0;
        int singers = 0;
        final int[] low = new int[SINGERS];
        final int[] high = new int[SINGERS];
        final int[] breath = new int[SINGERS];
        int pans = 0;
        final int[] kind = new int[PANS];
        final int[] mode = new int[PANS];
        final int[] needs = new int[PANS];
        int bar = 0;
        final int[] sung = new int[SINGERS];
        final int[] hears = new int[PANS];
        final int[] thick = new int[PANS];
        final int[] heard = new int[PANS];

        void begin() {
            told = true;
            singers = 0;
            pans = 0;
            bar = 0;
            Arrays.fill(sung, 0);
            Arrays.fill(thick, 0);
            Arrays.fill(heard, NONE);
        }

        void takeFrom(Kitchen other) {
            told = other.told;
            back = other.back;
            singers = other.singers;
            pans = other.pans;
            bar = other.bar;
            System.arraycopy(other.low, 0, low, 0, SINGERS);
            System.arraycopy(other.high, 0, high, 0, SINGERS);
            System.arraycopy(other.breath, 0, breath, 0, SINGERS);
            System.arraycopy(other.sung, 0, sung, 0, SINGERS);
            System.arraycopy(other.kind, 0, kind, 0, PANS);
            System.arraycopy(other.mode, 0, mode, 0, PANS);
            System.arraycopy(other.needs, 0, needs, 0, PANS);
            System.arraycopy(other.hears, 0, hears, 0, PANS);
            System.arraycopy(other.thick, 0, thick, 0, PANS);
            System.arraycopy(other.heard, 0, heard, 0, PANS);
        }

        void keep(int[] page) {
            page[0] = bar;
            System.arraycopy(sung, 0, page, 1, SINGERS);
            System.arraycopy(hears, 0, page, 1 + SINGERS, PANS);
            System.arraycopy(thick, 0, page, 1 + SINGERS + PANS, PANS);
            System.arraycopy(heard, 0, page, 1 + SINGERS + 2 * PANS, PANS);
        }

        void bring(int[] page) {
            bar = page[0];
            System.arraycopy(page, 1, sung, 0, SINGERS);
            System.arraycopy(page, 1 + SINGERS, hears, 0, PANS);
            System.arraycopy(page, 1 + SINGERS + PANS, thick, 0, PANS);
            System.arraycopy(page, 1 + SINGERS + 2 * PANS, heard, 0, PANS);
        }

        boolean can(int singer, int note) {
            return note == REST
                    || note >= low[singer] && note <= high[singer] && sung[singer] < breath[singer];
        }

        boolean isSet(int pan) {
            return thick[pan] >= needs[pan];
        }

        int setPans() {
            int bits = 0;
            for (int p = 0; p < pans; p++) {
                bits |= isSet(p) ? 1 << p : 0;
            }
            return bits;
        }

        /** A bar of what is foretold: there one who cannot sing a note rests. */
        void tryBar(int[] voices) {
            for (int s = 0; s < singers; s++) {
                if (!can(s, voices[s])) {
                    voices[s] = REST;
                }
            }
            singBar(voices);
        }

        void singBar(int[] voices) {
            for (int p = 0; p < pans; p++) {
                if (!isSet(p)) {
                    hear(p, voices);
                }
            }
            for (int s = 0; s < singers; s++) {
                sung[s] = voices[s] == REST ? 0 : sung[s] + 1;
            }
            bar++;
        }

        private void hear(int pan, int[] voices) {
            int notes = 0;
            for (int s = 0; s < singers; s++) {
                if (voices[s] != REST && (hears[pan] >> s & 1) == 1) {
                    notes |= 1 << voices[s];
                }
            }
            int least = notes == 0 ? NONE : Integer.numberOfTrailingZeros(notes);
            thick[pan] = thickBy(pan, judge(pan, notes, least));
            heard[pan] = isSet(pan) ? NONE : least;
        }

        private int judge(int pan, int notes, int least) {
            if (notes == 0) {
                return STILL;
            }
            if ((notes & ~mode[pan]) != 0) {
                return WRONG;
            }
            // NONE lies further than 2 from every note
            boolean leaps = Math.abs(least - heard[pan]) == 2;
            return kind[pan] != QUINCE || leaps ? RIGHT : WRONG;
        }

        private int thickBy(int pan, int judged) {
            if (kind[pan] == MARROW) {
                return thick[pan];
            }
            if (kind[pan] == DAMSON) {
                return judged == STILL ? thick[pan] + 1 : 0;
            }
            if (judged == WRONG) {
                return kind[pan] == CHERRY ? 0 : Math.max(thick[pan] - back, 0);
            }
            return judged == RIGHT ? thick[pan] + 1 : thick[pan];
        }
    }
}
