/** The edges of promises 23 to 28, and of what 'Terms' says of KINDS, ASKS and THE TRACE. */
final class EdgesOfAsks {
    private static final int BAD = JamSongs.BAD, STATE = JamSongs.STATE, FULL = JamSongs.FULL, NONE = JamSongs.NONE;
    private static final int NULL = -1000011, PLACE = -1000012, KIND = -1000013, SIZE = -1000014, STORE = -1000015;
    private static final int MIN = Integer.MIN_VALUE, MAX = Integer.MAX_VALUE;
    private static final String TERMS = "Terms", SINGER = "s0,6,9;";
    private static final String[] SORTS = {"p", "c", "q", "m", "d"};
    /** By sort, plums first: the KINDS that it is, as bits. */
    private static final int[] IS = {0b000011, 0b000111, 0b001011, 0b010001, 0b110001};

    private EdgesOfAsks() { }

    static void all() {
        kindsOfPans();
        byThisItIsAsked();
        bodiesLeaveTheirNumbers();
        theFirst16();
        sizeOfPlums();
        sizeOfCherries();
        sizeOfMarrows();
        sizeOfDamsons();
        markOfPlums();
        markOfQuinces();
        markOfMarrows();
        markOfCherries();
        theNearestKind();
        askedAnew();
        kindTells();
        kindRefuses();
        asTakes();
        asRefuses();
        askTakes();
        askAnswersAsAllIs();
        askRefuses();
        theTraceIsEmptyAhead();
        traceTells();
        countOfRows();
        countOfTold();
        countOfBarsAndActs();
        countOfSet();
        countOfBytes();
        countRefuses();
        statusOfEachFinding();
        statusOfNone();
        statusStays();
    }

    /** PANS 0 to 4, all of one sort: NEEDS 1, 2, 20, 1, 20; SINGER 0 is heard, SINGER 1 by the last one alone. */
    private static JamSongs five(String sort) {
        return Due.kitchen("j1;" + SINGER + SINGER + sort + "127,1,1;" + sort + "127,2,1;" + sort + "127,20,1;"
            + sort + "127,1,1;" + sort + "127,20,3;");
    }

    private static void asked(JamSongs x, int pan, int what, int due, int... bodies) {
        String call = "ask(" + pan + ", " + what + ")";
        Due.is(call, x.ask(pan, what), due);
        for (int i = 0; i < 17; i++) {
            Due.is("trace(" + i + ") behind " + call, x.trace(i), i < bodies.length ? bodies[i] : NONE);
        }
    }

    private static void kindsOfPans() {
        Due.says(TERMS, "KINDS of PANS: 0 FRUIT; 1 PLUM, a FRUIT; 2 CHERRY, a PLUM; 3 QUINCE, a PLUM; "
            + "4 MARROW, a FRUIT; 5 DAMSON, a MARROW.");
        for (int sort = 0; sort < 5; sort++) {
            JamSongs x = Due.kitchen("j1;" + SORTS[sort] + "1,1,0;");
            Due.is("the KIND of " + SORTS[sort], x.kind(0), sort + 1);
            for (int kind = 0; kind < 6; kind++) {
                Due.is(SORTS[sort] + " as " + kind, x.as(0, kind), (IS[sort] >> kind & 1) == 1 ? 0 : KIND);
            }
            Due.is(SORTS[sort] + " as -1", x.as(0, -1), BAD);
            Due.is(SORTS[sort] + " as 6", x.as(0, 6), BAD);
        }
    }

    private static void byThisItIsAsked() {
        Due.says(TERMS, "By this it is asked.");
        int[][] first = {{11, 21}, {12, 24}, {11, 22}, {13, 23}, {14, 23}};
        for (int sort = 0; sort < 5; sort++) {
            JamSongs x = Due.kitchen("j1;" + SORTS[sort] + "1,1,0;");
            for (int what = 0; what < 2; what++) {
                x.ask(0, what);
                Due.is("the first BODY of " + SORTS[sort] + ", ask " + what, x.trace(0), first[sort][what]);
            }
        }
    }

    private static void bodiesLeaveTheirNumbers() {
        Due.says(TERMS, "4 ASKS of PANS, by BODIES, each of which leaves its number in THE TRACE as it begins");
        asked(five("p"), 0, 0, 1, 11, 10, 21, 20);
        asked(five("c"), 0, 0, -1, 12, 11, 10, 24, 21, 20);
        asked(five("q"), 0, 0, -999, 11, 10, 22, 21, 20);
        asked(five("m"), 0, 0, -99, 13, 10);
        asked(five("d"), 0, 0, -198, 14, 13, 10);
        asked(five("p"), 0, 1, 0, 21, 20);
        asked(five("c"), 0, 1, 0, 24, 21, 20);
        asked(five("q"), 0, 1, -1000, 22, 21, 20);
        asked(five("m"), 0, 1, 99, 23, 20, 13, 10);
        asked(five("d"), 0, 1, 198, 23, 20, 14, 13, 10);
    }

    private static void theFirst16() {
        Due.says(TERMS, "(the first 16):");
        // no ask has more than six BODIES, so that none is ever left out; three asks of six would be 18
        JamSongs x = five("c");
        for (int again = 0; again < 3; again++) {
            asked(x, 4, 0, -28, 12, 11, 10, 24, 21, 20);
            Due.is("trace(15)", x.trace(15), NONE);
            Due.is("trace(16)", x.trace(16), NONE);
        }
    }

    private static void sizeOfPlums() {
        Due.says(TERMS, "0 SIZE: 10 lent to all PANS: NEEDS. 11 of PLUMS: what 10 gives, and MARK.");
        JamSongs x = five("p");
        int[] due = {1, 3, 22, 4, 24};
        for (int p = 0; p < 5; p++) {
            Due.is("ask(" + p + ", 0)", x.ask(p, 0), due[p]);
        }
        thicken(x);
        int[] later = {2, 5, 31, 5, 44};
        for (int p = 0; p < 5; p++) {
            Due.is("ask(" + p + ", 0), THICK " + x.pan(p, 3), x.ask(p, 0), later[p]);
        }
    }

    /** All PANS of plums become as THICK as they can: SINGER 0 has breath for 9 BARS, SINGER 1 then for 9 more, .. */
    private static void thicken(JamSongs x) {
        for (int k = 0; k < 9; k++) {
            x.bar(0, 7, 7);
        }
        for (int k = 0; k < 9; k++) {
            x.bar(7, 0, 7);
        }
        Due.rest(x, 1);
        x.bar(7, 0, 7);
        x.bar(7, 0, 7);
        Due.is("THICK of PAN 0", x.pan(0, 3), 1);
        Due.is("THICK of PAN 2", x.pan(2, 3), 9);
        Due.is("THICK of PAN 4", x.pan(4, 3), 20);
    }

    private static void sizeOfCherries() {
        Due.says(TERMS, "12 of CHERRIES: 0 less what 11 gives.");
        JamSongs x = five("c");
        int[] due = {-1, -4, -24, -7, -28};
        for (int p = 0; p < 5; p++) {
            Due.is("ask(" + p + ", 0)", x.ask(p, 0), due[p]);
        }
        thicken(x);
        int[] later = {-3, -8, -42, -9, -68};
        for (int p = 0; p < 5; p++) {
            Due.is("ask(" + p + ", 0), THICK " + x.pan(p, 3), x.ask(p, 0), later[p]);
        }
    }

    private static void sizeOfMarrows() {
        Due.says(TERMS, "13 of MARROWS: what 10 gives, less 100.");
        JamSongs x = five("m");
        int[] due = {-99, -98, -80, -99, -80};
        for (int p = 0; p < 5; p++) {
            Due.is("ask(" + p + ", 0)", x.ask(p, 0), due[p]);
        }
    }

    private static void sizeOfDamsons() {
        Due.says(TERMS, "14 of DAMSONS: what 13 gives, twice.");
        JamSongs x = five("d");
        int[] due = {-198, -196, -160, -198, -160};
        for (int p = 0; p < 5; p++) {
            Due.is("ask(" + p + ", 0)", x.ask(p, 0), due[p]);
        }
        Due.rest(x, 20);
        Due.is("THICK", x.pan(4, 3), 20);
        for (int p = 0; p < 5; p++) {
            Due.is("ask(" + p + ", 0), SET", x.ask(p, 0), due[p]);
        }
    }

    private static void markOfPlums() {
        Due.says(TERMS, "1 MARK: 20 lent to all PANS: the number. 21 of PLUMS: what 20 gives, and how THICK it is.");
        JamSongs x = five("p");
        for (int p = 0; p < 5; p++) {
            Due.is("ask(" + p + ", 1)", x.ask(p, 1), p);
        }
        thicken(x);
        int[] later = {1, 3, 11, 4, 24};
        for (int p = 0; p < 5; p++) {
            Due.is("ask(" + p + ", 1), THICK " + x.pan(p, 3), x.ask(p, 1), later[p]);
        }
    }

    private static void markOfQuinces() {
        Due.says(TERMS, "22 of QUINCES: what 21 gives, less 1000.");
        JamSongs x = five("q");
        for (int p = 0; p < 5; p++) {
            Due.is("ask(" + p + ", 1)", x.ask(p, 1), p - 1000);
        }
        Due.sing(x, "02020202");
        int[] later = {-999, -997, -991, -996, -989};
        for (int p = 0; p < 5; p++) {
            Due.is("ask(" + p + ", 1), THICK " + x.pan(p, 3), x.ask(p, 1), later[p]);
        }
    }

    private static void markOfMarrows() {
        Due.says(TERMS, "23 of MARROWS: what 20 gives, less SIZE.");
        JamSongs x = five("m");
        int[] due = {99, 99, 82, 102, 84};
        for (int p = 0; p < 5; p++) {
            Due.is("ask(" + p + ", 1)", x.ask(p, 1), due[p]);
        }
        JamSongs y = five("d");
        int[] twice = {198, 197, 162, 201, 164};
        for (int p = 0; p < 5; p++) {
            Due.is("damsons: ask(" + p + ", 1)", y.ask(p, 1), twice[p]);
        }
        Due.rest(y, 20);
        for (int p = 0; p < 5; p++) {
            Due.is("damsons: ask(" + p + ", 1), SET", y.ask(p, 1), twice[p]);
        }
    }

    private static void markOfCherries() {
        Due.says(TERMS, "24 of CHERRIES: what 21 gives, twice.");
        JamSongs x = five("c");
        for (int p = 0; p < 5; p++) {
            Due.is("ask(" + p + ", 1)", x.ask(p, 1), 2 * p);
        }
        thicken(x);
        int[] later = {2, 6, 22, 8, 48};
        for (int p = 0; p < 5; p++) {
            Due.is("ask(" + p + ", 1), THICK " + x.pan(p, 3), x.ask(p, 1), later[p]);
        }
    }

    private static void theNearestKind() {
        Due.says(TERMS, "(Of an ask the BODY told for the KIND begins, else that of the nearest KIND that it is, too, "
            + "else the one that is lent;");
        JamSongs x = Due.kitchen("j1;q127,7,0;d127,7,0;");
        asked(x, 0, 0, 7 - 1000, 11, 10, 22, 21, 20);
        asked(x, 1, 1, 1 + 2 * 93, 23, 20, 14, 13, 10);
    }

    private static void askedAnew() {
        Due.says(TERMS, "SIZE, MARK within others are asked of the same PAN anew.)");
        JamSongs x = Due.kitchen("j1;" + SINGER + "p127,20,0;q127,20,1;c127,20,1;d127,20,1;m127,20,1;");
        Due.sing(x, "02");
        asked(x, 0, 0, 20, 11, 10, 21, 20);
        asked(x, 1, 0, 20 + 1 + 1 - 1000, 11, 10, 22, 21, 20);
        asked(x, 2, 0, -(20 + 2 * (2 + 2)), 12, 11, 10, 24, 21, 20);
        asked(x, 3, 1, 3 + 160, 23, 20, 14, 13, 10);
        asked(x, 4, 1, 4 + 80, 23, 20, 13, 10);
    }

    private static void kindTells() {
        Due.says("Promise 23", "The KIND of a PAN, as told (1 to 5).");
        JamSongs x = Due.kitchen("j1;d1,1,0;m1,1,0;q1,1,0;c1,1,0;p1,1,0;");
        for (int p = 0; p < 5; p++) {
            Due.is("kind(" + p + ")", x.kind(p), 5 - p);
            Due.is("as(" + p + ", 0)", x.as(p, 0), p);
            Due.is("kind(" + p + ") stays", x.kind(p), 5 - p);
        }
    }

    private static void kindRefuses() {
        Due.says("Promise 23", "BAD.");
        JamSongs x = new JamSongs();
        Due.is("no KITCHEN", x.kind(0), BAD);
        Due.read(x, "j1;" + "p1,1,0;".repeat(5));
        int[] pans = {MIN, -1, 0, 4, 5, MAX};
        for (int p : pans) {
            Due.is("kind(" + p + ")", x.kind(p), p == 0 || p == 4 ? 1 : BAD);
        }
        Due.read(x, "j1;d1,1,0;");
        Due.is("kind(0) of one", x.kind(0), 5);
        Due.is("kind(1) of one", x.kind(1), BAD);
        Due.read(x, "j1;");
        Due.is("kind(0) of none", x.kind(0), BAD);
    }

    private static void asTakes() {
        Due.says("Promise 24", "A PAN is taken as one of a KIND (0 .. 5): its number.");
        for (int sort = 0; sort < 5; sort++) {
            JamSongs x = five(SORTS[sort]);
            for (int p = 0; p < 5; p++) {
                for (int kind = 0; kind < 6; kind++) {
                    Due.is("as(" + p + ", " + kind + ") of " + SORTS[sort], x.as(p, kind),
                        (IS[sort] >> kind & 1) == 1 ? p : KIND);
                }
            }
        }
        Twins.changesNothing("as(4, 4), and a finding behind it", false, x -> {
            int answer = x.as(4, 4);
            x.drop(3);
            return answer;
        });
    }

    private static void asRefuses() {
        Due.says("Promise 24", "BAD; KIND: it is no such one.");
        JamSongs x = five("q");
        int[] numbers = {MIN, -1, 0, 1, 4, 5, 6, MAX};
        for (int v : numbers) {
            Due.is("as(" + v + ", 0)", x.as(v, 0), v >= 0 && v <= 4 ? v : BAD);
            Due.is("as(0, " + v + ")", x.as(0, v), v == 0 || v == 1 ? 0 : v == 4 || v == 5 ? KIND : BAD);
        }
        Due.is("as(4, 2)", x.as(4, 2), KIND);
        Due.is("status()", x.status(), 3);
        Due.is("BAD ahead of KIND", x.as(5, 2), BAD);
        Due.is("status() stays by BAD", x.status(), 3);
        Due.is("as(4, 3)", x.as(4, 3), 4);
        Due.is("status()", x.status(), 0);
        Due.is("no KITCHEN", new JamSongs().as(0, 0), BAD);
        Due.read(x, "j1;");
        Due.is("no PANS", x.as(0, 0), BAD);
    }

    private static void askTakes() {
        Due.says("Promise 25", "An ASK (0, 1) of a PAN.");
        for (int sort = 0; sort < 5; sort++) {
            JamSongs x = five(SORTS[sort]);
            Due.is("the first PAN of " + SORTS[sort], x.ask(0, 0), new int[] {1, -1, -999, -99, -198}[sort]);
            Due.is("the last PAN of " + SORTS[sort], x.ask(4, 0), new int[] {24, -28, -976, -80, -160}[sort]);
            Due.is("the first PAN's MARK of " + SORTS[sort], x.ask(0, 1), new int[] {0, 0, -1000, 99, 198}[sort]);
            Due.is("the last PAN's MARK of " + SORTS[sort], x.ask(4, 1), new int[] {4, 8, -996, 84, 164}[sort]);
            Due.is("nothing is sung by it", x.count(3), 0);
            Due.is("it is no ACT", x.count(6), 0);
        }
    }

    private static void askAnswersAsAllIs() {
        Due.says("Promise 25", "An ASK (0, 1) of a PAN.");
        JamSongs x = Due.kitchen("j1;" + SINGER + "p1,2,1;");
        int[] due = {0, 1, 0, 1, 2, 2};
        String notes = " 01007";
        for (int k = 0; k < due.length; k++) {
            if (k > 0) {
                Due.sing(x, notes.substring(k, k + 1));
            }
            Due.is("MARK behind BAR " + k, x.ask(0, 1), due[k]);
            Due.is("SIZE behind BAR " + k, x.ask(0, 0), 2 + due[k]);
        }
        x.undo();
        x.undo();
        Due.is("MARK, two ACTS undone", x.ask(0, 1), 1);
        x.image(0);
        x.undo();
        Due.is("MARK, three ACTS undone", x.ask(0, 1), 0);
        x.restore(0);
        Due.is("MARK, restored", x.ask(0, 1), 1);
        Due.read(x, "j1;p1,20,0;d1,1,0;");
        Due.is("MARK of another KITCHEN", x.ask(0, 1), 0);
        Due.is("SIZE of another KITCHEN", x.ask(0, 0), 20);
        Due.is("SIZE of its damsons", x.ask(1, 0), -198);
    }

    private static void askRefuses() {
        Due.says("Promise 25", "BAD (THE TRACE stays then).");
        JamSongs x = five("m");
        x.ask(3, 1);
        int[] numbers = {MIN, -1, 5, 6, MAX};
        for (int v : numbers) {
            Due.is("ask(" + v + ", 0)", x.ask(v, 0), BAD);
            Due.is("ask(" + v + ", 1)", x.ask(v, 1), BAD);
            Due.is("ask(0, " + v + ")", x.ask(0, v), BAD);
            int[] bodies = {23, 20, 13, 10, NONE};
            for (int i = 0; i < bodies.length; i++) {
                Due.is("trace(" + i + ") stays", x.trace(i), bodies[i]);
            }
        }
        Due.is("ask(0, 2)", x.ask(0, 2), BAD);
        Due.is("trace(0) stays", x.trace(0), 23);
        Due.is("ask(4, 1)", x.ask(4, 1), 84);
        Due.is("no KITCHEN", new JamSongs().ask(0, 0), BAD);
        Due.read(x, "j1;" + SINGER);
        Due.is("no PANS", x.ask(0, 0), BAD);
        Due.is("trace(0) stays", x.trace(0), 23);
    }

    private static void theTraceIsEmptyAhead() {
        Due.says("Promise 25", "THE TRACE is empty ahead of it.");
        JamSongs x = Due.kitchen("j1;c1,9,0;m1,9,0;");
        asked(x, 0, 0, -9, 12, 11, 10, 24, 21, 20);
        asked(x, 1, 0, -91, 13, 10);
        asked(x, 1, 0, -91, 13, 10);
        asked(x, 0, 1, 0, 24, 21, 20);
    }

    private static void traceTells() {
        Due.says("Promise 26", "Number i of THE TRACE; NONE.");
        JamSongs x = new JamSongs();
        int[] places = {MIN, -1, 0, 1, 15, 16, MAX};
        for (int i : places) {
            Due.is("trace(" + i + ") ahead of every ask", x.trace(i), NONE);
        }
        Due.read(x, "j1;" + SINGER + "m127,9,1;c127,9,1;");
        x.ask(0, 0);
        for (int i : places) {
            Due.is("trace(" + i + ") of two", x.trace(i), i == 0 ? 13 : i == 1 ? 10 : NONE);
        }
        Due.is("trace(2) of two", x.trace(2), NONE);
        x.ask(1, 0);
        Due.is("trace(5) of six", x.trace(5), 20);
        Due.is("trace(6) of six", x.trace(6), NONE);
        x.bar(0, 7, 7);
        x.undo();
        x.image(0);
        x.restore(0);
        Due.read(x, "j1;");
        Due.read(x, "j0;");
        x.row(0, 0, 0);
        Due.is("trace(5) stays by all else", x.trace(5), 20);
        Due.is("trace(0) stays by all else", x.trace(0), 12);
        Due.is("trace(6) by all else", x.trace(6), NONE);
    }

    private static void countOfRows() {
        Due.says("Promise 27", "How many: 0 ROWS,");
        JamSongs x = new JamSongs();
        Due.is("at first", x.count(0), 0);
        for (int r = 7; r >= 0; r--) {
            x.row(r, r % 3, 0);
            Due.is("ROWS", x.count(0), 8 - r);
        }
        x.row(3, 2, 40);
        Due.is("one in place of another", x.count(0), 8);
        x.row(8, 0, 1);
        x.row(0, 0, -1);
        Due.is("by what was refused, or found", x.count(0), 8);
        for (int r = 0; r < 8; r++) {
            x.drop(r);
            x.drop(r);
            Due.is("ROWS", x.count(0), 7 - r);
        }
        x.row(5, 0, 3);
        Due.read(x, "j1;" + SINGER);
        Due.is("ROWS stay by a KITCHEN", x.count(0), 1);
    }

    private static void countOfTold() {
        Due.says("Promise 27", "1 SINGERS, 2 PANS,");
        Due.says("Promise 27", "4 BACK,");
        for (int many = 0; many <= 5; many++) {
            int singers = Math.min(many, 3);
            int back = many < 5 ? many + 1 : 9;
            JamSongs x = new JamSongs();
            Due.is("SINGERS at first", x.count(1), 0);
            Due.is("PANS at first", x.count(2), 0);
            Due.is("BACK at first", x.count(4), 0);
            Due.read(x, "j" + back + ";" + SINGER.repeat(singers) + "p1,1,0;".repeat(many));
            Due.is("SINGERS", x.count(1), singers);
            Due.is("PANS", x.count(2), many);
            Due.is("BACK", x.count(4), back);
            Due.read(x, "j7;" + SINGER + "p1,1,1;p1,1,2;");
            Due.is("SINGERS stay by a FAULT", x.count(1), singers);
            Due.is("PANS stay by a FAULT", x.count(2), many);
            Due.is("BACK stays by a FAULT", x.count(4), back);
        }
    }

    private static void countOfBarsAndActs() {
        Due.says("Promise 27", "3 the BAR,");
        Due.says("Promise 27", "6 ACTS that can be undone,");
        JamSongs x = Due.kitchen("j1;" + SINGER + "p127,20,1;");
        for (int k = 1; k <= 30; k++) {
            x.bar(7, 7, 7);
            Due.is("the BAR", x.count(3), k);
            Due.is("ACTS", x.count(6), Math.min(k, 24));
        }
        x.bar(8, 7, 7);
        x.window(0, 0, 1);
        Due.is("the BAR by what was refused", x.count(3), 30);
        Due.is("ACTS by what was refused", x.count(6), 24);
        x.window(0, 0, 0);
        Due.is("the BAR by a window", x.count(3), 30);
        Due.is("ACTS by a window", x.count(6), 24);
        x.undo();
        Due.is("the BAR by a window undone", x.count(3), 30);
        Due.is("ACTS by a window undone", x.count(6), 23);
        x.undo();
        Due.is("the BAR by a BAR undone", x.count(3), 29);
        Due.is("ACTS by a BAR undone", x.count(6), 22);
        x.image(0);
        x.restore(0);
        Due.is("the BAR restored", x.count(3), 29);
        Due.is("ACTS behind it", x.count(6), 0);
        x.undo();
        Due.is("ACTS where none can be undone", x.count(6), 0);
        x.window(0, 0, 0);
        Due.is("a window alone", x.count(6), 1);
        Due.read(x, "j1;");
        Due.is("the BAR of another KITCHEN", x.count(3), 0);
        Due.is("ACTS of another KITCHEN", x.count(6), 0);
    }

    private static void countOfSet() {
        Due.says("Promise 27", "5 PANS that are SET (bits),");
        JamSongs x = Due.kitchen("j1;" + SINGER + "d0,5,0;d0,1,0;d0,3,0;d0,2,0;d0,4,0;");
        int[] due = {0, 2, 10, 14, 30, 31, 31};
        for (int k = 0; k < due.length; k++) {
            Due.is("behind BAR " + k, x.count(5), due[k]);
            x.bar(7, 7, 7);
        }
        for (int k = due.length - 1; k >= 0; k--) {
            x.undo();
            Due.is("behind BAR " + k + ", undone", x.count(5), due[k]);
        }
        Due.read(x, "j1;");
        Due.is("no PANS", x.count(5), 0);
    }

    private static void countOfBytes() {
        Due.says("Promise 27", "7 bytes on the tape.");
        JamSongs x = new JamSongs();
        Due.is("at first", x.count(7), 0);
        for (int k = 1; k <= 121; k++) {
            x.feed(k % 256);
            Due.is("bytes", x.count(7), Math.min(k, 120));
        }
        x.feed(-1);
        x.feed(256);
        Due.is("by what was refused", x.count(7), 120);
        x.kitchen();
        Due.is("behind a FAULT", x.count(7), 0);
        Due.feed(x, "j1;");
        Due.is("three", x.count(7), 3);
        x.kitchen();
        Due.is("behind a text", x.count(7), 0);
    }

    private static void countRefuses() {
        Due.says("Promise 27", "BAD.");
        JamSongs x = Twins.story();
        int[] due = {5, 3, 5, 4, 2, 17, 6, 2};
        for (int what = 0; what < 8; what++) {
            Due.is("count(" + what + ")", x.count(what), due[what]);
        }
        int[] whats = {MIN, -1, 8, 9, MAX};
        for (int what : whats) {
            Due.is("count(" + what + ")", x.count(what), BAD);
            Due.is("count(" + what + ") of a new object", new JamSongs().count(what), BAD);
        }
    }

    private static void found(JamSongs x, String call, int got, int due, int number) {
        Due.is(call, got, due);
        Due.is("status() behind " + call, x.status(), number);
        Due.is("status() again", x.status(), number);
    }

    private static void statusOfEachFinding() {
        Due.says("Promise 28", "Of the latest call with a ROW, or as(),");
        Due.says("Promise 28", "the number of its FINDING;");
        JamSongs x = Twins.story();
        found(x, "set of a missing ROW", x.set(3, 0, 0), NULL, 1);
        found(x, "row below none", x.row(0, 0, -1), SIZE, 4);
        found(x, "set beyond", x.set(0, 8, 0), PLACE, 2);
        found(x, "copy of two LANES", x.copy(0, 0, 1, 0, 1), STORE, 5);
        found(x, "as no such one", x.as(0, 5), KIND, 3);
        found(x, "drop of a missing ROW", x.drop(3), NULL, 1);
        found(x, "copy beyond", x.copy(0, 0, 0, 5, 4), PLACE, 2);
        found(x, "copy to a missing ROW", x.copy(0, 0, 3, 0, 1), NULL, 1);
        found(x, "alone beyond", x.alone(0, 0, 8, 1), PLACE, 2);
        found(x, "alone by a missing ROW", x.alone(0, 3, 0, 1), NULL, 1);
        found(x, "round beyond", x.round(0, 0, 8, 1), PLACE, 2);
        found(x, "round by a missing ROW", x.round(0, 3, 0, 1), NULL, 1);
        found(x, "bestRound beyond", x.bestRound(0, 8, 1, 0), PLACE, 2);
        found(x, "bestRound by a missing ROW", x.bestRound(3, 0, 1, 0), NULL, 1);
        found(x, "toShut beyond", x.toShut(0, 0, 0, 8, 1, 0), PLACE, 2);
        found(x, "toShut by a missing ROW", x.toShut(0, 0, 3, 0, 1, 0), NULL, 1);
        found(x, "modes beyond", x.modes(0, 0, 0, 8, 1, 0, 0), PLACE, 2);
        found(x, "modes by a missing ROW", x.modes(0, 0, 3, 0, 1, 0, 0), NULL, 1);
        found(x, "coughs beyond", x.coughs(0, 0, 0, 8, 1, 0, 0), PLACE, 2);
        found(x, "coughs by a missing ROW", x.coughs(0, 0, 3, 0, 1, 0, 0), NULL, 1);
    }

    private static void none(String name, Twins.Call call) {
        JamSongs x = Twins.story();
        Due.is("status() ahead of " + name, x.status(), 1);
        call.of(x);
        Due.is("status() behind " + name, x.status(), 0);
    }

    private static void statusOfNone() {
        Due.says("Promise 28", "0: it had none, or there was none.");
        JamSongs x = new JamSongs();
        Due.is("there was none", x.status(), 0);
        Due.read(x, "j0;");
        x.set(8, 0, 0);
        x.round(0, 0, 0, 0);
        Due.is("there was none but BAD, STATE, a FAULT", x.status(), 0);
        none("row", y -> y.row(3, 0, 0));
        none("set", y -> y.set(0, 0, -1));
        none("copy", y -> y.copy(0, 0, 0, 0, 0));
        none("drop", y -> y.drop(4));
        none("alone", y -> y.alone(0, 0, 0, 8));
        none("round", y -> y.round(0, 0, 0, 8));
        none("bestRound", y -> y.bestRound(0, 0, 8, 0));
        none("toShut that is NONE", y -> y.toShut(3, 0, 0, 0, 8, 0));
        none("modes that is NONE", y -> y.modes(3, 0, 0, 0, 8, 20, 1));
        none("coughs", y -> y.coughs(0, 0, 0, 0, 8, 5, 0));
        none("as", y -> y.as(0, 0));
    }

    private static void stays(String name, int due, Twins.Call call) {
        JamSongs x = Twins.story();
        Due.is(name, call.of(x), due);
        Due.is("status() behind " + name, x.status(), 1);
        JamSongs y = Twins.story();
        y.set(0, 0, 0);
        call.of(y);
        Due.is("status() 0 behind " + name, y.status(), 0);
    }

    private static void statusStays() {
        Due.says("Promise 28", "that was not BAD, STATE, FULL:");
        stays("row that is BAD", BAD, x -> x.row(8, 0, -1));
        stays("set that is BAD", BAD, x -> x.set(8, 0, 0));
        stays("copy that is BAD", BAD, x -> x.copy(0, 99, 8, 0, 1));
        stays("drop that is BAD", BAD, x -> x.drop(8));
        stays("alone that is BAD", BAD, x -> x.alone(3, 0, 0, 1));
        stays("alone of a BAD ITEM", BAD, x -> x.alone(0, 2, 19, 1));
        stays("round that is BAD", BAD, x -> x.round(9, 0, 0, 1));
        stays("round of a BAD ITEM", BAD, x -> x.round(0, 2, 19, 1));
        stays("bestRound that is BAD", BAD, x -> x.bestRound(0, 0, 1, 2));
        stays("bestRound of a BAD ITEM", BAD, x -> x.bestRound(2, 19, 1, 0));
        stays("toShut that is BAD", BAD, x -> x.toShut(5, 0, 0, 0, 1, 0));
        stays("toShut of a BAD ITEM", BAD, x -> x.toShut(0, 0, 2, 19, 1, 0));
        stays("modes that is BAD", BAD, x -> x.modes(0, 0, 0, 0, 1, 21, 0));
        stays("modes of a BAD ITEM", BAD, x -> x.modes(0, 0, 2, 19, 1, 0, 0));
        stays("coughs that is BAD", BAD, x -> x.coughs(0, 0, 0, 0, 9, 0, 0));
        stays("coughs of a BAD ITEM", BAD, x -> x.coughs(0, 0, 2, 19, 1, 0, 0));
        stays("as that is BAD", BAD, x -> x.as(0, 6));
        stays("song that is BAD", BAD, x -> x.song(0, 5, 0));
        stays("feed", 3, x -> x.feed(0));
        stays("kitchen with a FAULT", -1000102, x -> x.kitchen());
        stays("fault", 2, x -> x.fault());
        stays("bar", 17, x -> x.bar(7, 7, 7));
        stays("bar that is STATE", STATE, x -> x.bar(0, 0, 7));
        stays("window", 1, x -> x.window(0, 0, 0));
        stays("window that is STATE", STATE, x -> x.window(0, 0, 1));
        stays("undo", 5, x -> x.undo());
        stays("pan", 21, x -> x.pan(0, 0));
        stays("singer", 6, x -> x.singer(0, 1));
        stays("song", 2, x -> x.song(0, 0, -1));
        stays("image", 1, x -> x.image(1));
        stays("restore", 1, x -> x.restore(0));
        stays("restore that is STATE", STATE, x -> x.restore(1));
        stays("kind", 1, x -> x.kind(0));
        stays("ask", -99 + 4, x -> x.ask(3, 0));
        stays("trace", 12, x -> x.trace(0));
        stays("count", 5, x -> x.count(2));
        JamSongs x = Due.kitchen("j1;");
        x.drop(0);
        for (int k = 0; k < 120; k++) {
            x.feed(0);
        }
        Due.is("feed that is FULL", x.feed(0), FULL);
        Due.is("status() behind FULL", x.status(), 1);
        Due.is("STATE of round", roundWithoutKitchen(), 1);
    }

    private static int roundWithoutKitchen() {
        JamSongs x = new JamSongs();
        x.drop(0);
        Due.is("round without a KITCHEN", x.round(0, 0, 0, 0), STATE);
        Due.is("bestRound without a KITCHEN", x.bestRound(0, 0, 0, 0), STATE);
        return x.status();
    }
}
