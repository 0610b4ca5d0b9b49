/** The edges of promises 1 to 5, and of what 'Terms' says of ROWS. */
final class EdgesOfRows {
    private static final int BAD = JamSongs.BAD, STATE = JamSongs.STATE, NONE = JamSongs.NONE;
    private static final int NULL = -1000011, PLACE = -1000012, SIZE = -1000014, STORE = -1000015;
    private static final int MIN = Integer.MIN_VALUE, MAX = Integer.MAX_VALUE;
    /** By this kitchen ITEMS can be read. */
    static final String READER = "j1;s0,6,9;p0,20,1;";

    private EdgesOfRows() { }

    static void all() {
        termsOfRows();
        termsOfLanes();
        termsOfItems();
        newObject();
        newObjectsAreApart();
        rowTakes();
        rowInPlaceOfAnother();
        rowRefuses();
        setCutsBytes();
        setCutsShorts();
        setLeavesInts();
        setTakesEveryPlace();
        setRefuses();
        copyTakes();
        copyAsTheyWereAhead();
        copyWholeRows();
        copyOfNone();
        copyRefusesRows();
        copyRefusesLanes();
        copyRefusesPlaces();
        dropTakes();
        dropRefuses();
    }

    /** ITEM i: 0 to 7, or BAD for another; by the reader's pan of plums, which no NOTE but it makes thicker. */
    static int item(JamSongs x, int row, int i) {
        int least = x.modes(0, 0, row, i, 1, 1, 1);
        return least == NONE ? 7 : least > 0 ? Integer.numberOfTrailingZeros(least) : least;
    }

    static void items(String call, JamSongs x, int row, String due) {
        for (int i = 0; i < due.length(); i++) {
            Due.is(call + ": ITEM " + i, item(x, row, i), due.charAt(i) - '0');
        }
        Due.is(call + ": no ITEM " + due.length(), item(x, row, due.length()), PLACE);
    }

    private static void termsOfRows() {
        Due.says("Terms", "1 ROWS 0 .. 7 are missing (at first),");
        JamSongs x = new JamSongs();
        for (int r = 0; r < 8; r++) {
            Due.is("drop(" + r + ")", x.drop(r), NULL);
        }
        Due.is("no ROW -1", x.drop(-1), BAD);
        Due.is("no ROW 8", x.drop(8), BAD);
        Due.is("no ROWS", x.count(0), 0);
        for (int r = 0; r < 8; r++) {
            Due.is("row(" + r + ", 0, 1)", x.row(r, 0, 1), 1);
            Due.is("ROWS that are there", x.count(0), r + 1);
        }
    }

    private static void termsOfLanes() {
        Due.says("Terms", "or have a LANE (0 bytes, 1 shorts, 2 ints)");
        JamSongs x = new JamSongs();
        int[] due = {-1, (short) 0x89ABCDFF, 0x89ABCDFF};
        for (int lane = 0; lane < 3; lane++) {
            Due.is("row(0, " + lane + ", 1)", x.row(0, lane, 1), 1);
            Due.is("an ITEM of LANE " + lane, x.set(0, 0, 0x89ABCDFF), due[lane]);
        }
        Due.is("no LANE -1", x.row(0, -1, 1), BAD);
        Due.is("no LANE 3", x.row(0, 3, 1), BAD);
    }

    private static void termsOfItems() {
        Due.says("Terms", "and 0 to 40 ITEMS, 0 at first.");
        JamSongs x = Due.kitchen(READER);
        x.row(0, 0, 0);
        items("a ROW of none", x, 0, "");
        for (int lane = 0; lane < 3; lane++) {
            x.row(lane, lane, 40);
            items("a ROW of 40", x, lane, "0".repeat(40));
        }
        Due.is("41 ITEMS", x.row(0, 0, 41), BAD);
    }

    private static void newObject() {
        Due.says("Promise 1", "No KITCHEN.");
        JamSongs x = new JamSongs();
        Due.is("bar", x.bar(7, 7, 7), STATE);
        Due.is("image", x.image(0), STATE);
        Due.is("round", x.round(0, 0, 0, 0), STATE);
        Due.is("bestRound", x.bestRound(0, 0, 0, 0), STATE);
        Due.is("undo", x.undo(), STATE);
        for (int what = 0; what < 8; what++) {
            Due.is("count(" + what + ")", x.count(what), 0);
        }
        for (int what = 0; what < 6; what++) {
            Due.is("pan(0, " + what + ")", x.pan(0, what), BAD);
        }
        for (int what = 0; what < 4; what++) {
            Due.is("singer(0, " + what + ")", x.singer(0, what), BAD);
        }
        for (int k = 0; k < 2; k++) {
            Due.is("restore(" + k + ")", x.restore(k), STATE);
        }
        for (int i = 0; i < 16; i++) {
            Due.is("trace(" + i + ")", x.trace(i), NONE);
        }
        Due.is("fault()", x.fault(), 0);
        Due.is("status()", x.status(), 0);
        Due.is("the tape is empty", x.kitchen(), -1000100);
    }

    private static void newObjectsAreApart() {
        Due.says("Promise 1", "No KITCHEN.");
        JamSongs x = Twins.story();
        JamSongs y = new JamSongs();
        Due.is("the other's kitchen", x.count(2), 5);
        Due.is("PANS", y.count(2), 0);
        Due.is("ROWS", y.count(0), 0);
        Due.is("the tape", y.count(7), 0);
        Due.is("IMAGE 0", y.restore(0), STATE);
        Due.is("THE TRACE", y.trace(0), NONE);
        Due.is("the other's trace", x.trace(0), 12);
    }

    private static void rowTakes() {
        Due.says("Promise 2", "A ROW of a LANE with n ITEMS,");
        JamSongs x = new JamSongs();
        Due.is("the first ROW, the first LANE, none", x.row(0, 0, 0), 0);
        Due.is("no ITEM 0", x.set(0, 0, 1), PLACE);
        Due.is("the last ROW, the last LANE, 40", x.row(7, 2, 40), 40);
        Due.is("ITEM 39", x.set(7, 39, 70000), 70000);
        Due.is("no ITEM 40", x.set(7, 40, 1), PLACE);
        Due.is("one ITEM of shorts", x.row(3, 1, 1), 1);
        Due.is("ITEM 0", x.set(3, 0, 70000), 4464);
        Due.is("no ITEM 1", x.set(3, 1, 1), PLACE);
        Due.is("ROWS", x.count(0), 3);
    }

    private static void rowInPlaceOfAnother() {
        Due.says("Promise 2", "in place of what is there: n.");
        JamSongs x = Due.kitchen(READER);
        Due.tune(x, 0, "1234567");
        Due.tune(x, 1, "654");
        Due.is("fewer", x.row(0, 0, 3), 3);
        items("fewer", x, 0, "000");
        Due.tune(x, 0, "123");
        Due.is("more", x.row(0, 0, 7), 7);
        items("more", x, 0, "0000000");
        items("the other ROW", x, 1, "654");
        Due.is("still two ROWS", x.count(0), 2);
        Due.is("another LANE", x.row(0, 2, 1), 1);
        Due.is("an int in it", x.set(0, 0, 128), 128);
        Due.is("none", x.row(0, 0, 0), 0);
        items("none", x, 0, "");
        Due.is("a ROW of none is there", x.count(0), 2);
    }

    private static void rowRefuses() {
        Due.says("Promise 2", "BAD: ROW, LANE, n above 40; SIZE.");
        JamSongs x = new JamSongs();
        Due.is("row(-1, 0, 1)", x.row(-1, 0, 1), BAD);
        Due.is("row(0, 0, 1)", x.row(0, 0, 1), 1);
        Due.is("row(7, 0, 1)", x.row(7, 0, 1), 1);
        Due.is("row(8, 0, 1)", x.row(8, 0, 1), BAD);
        Due.is("row(1, -1, 1)", x.row(1, -1, 1), BAD);
        Due.is("row(1, 3, 1)", x.row(1, 3, 1), BAD);
        Due.is("row(1, 0, 40)", x.row(1, 0, 40), 40);
        Due.is("row(2, 0, 41)", x.row(2, 0, 41), BAD);
        Due.is("row(2, 0, the most)", x.row(2, 0, MAX), BAD);
        Due.is("what was BAD has no FINDING", x.status(), 0);
        Due.is("row(2, 0, -1)", x.row(2, 0, -1), SIZE);
        Due.is("row(2, 0, the least)", x.row(2, 0, MIN), SIZE);
        Due.is("SIZE", x.status(), 4);
        Due.is("row(-1, 0, -1)", x.row(-1, 0, -1), BAD);
        Due.is("row(2, -1, -1)", x.row(2, -1, -1), BAD);
        Due.is("ROW 2 is missing yet", x.set(2, 0, 0), NULL);
        Due.is("ROWS", x.count(0), 3);
    }

    private static void cut(JamSongs x, int row, int[][] valuesAndDue) {
        for (int[] v : valuesAndDue) {
            Due.is("set(" + row + ", 0, " + v[0] + ")", x.set(row, 0, v[0]), v[1]);
        }
    }

    private static void setCutsBytes() {
        Due.says("Promise 3", "ITEM i becomes v, its lowest bits, as many as the LANE has: what it is then.");
        JamSongs x = Due.kitchen(READER);
        x.row(0, 0, 2);
        cut(x, 0, new int[][] {{127, 127}, {128, -128}, {-128, -128}, {-129, 127}, {255, -1}, {256, 0}, {257, 1},
            {-256, 0}, {-255, 1}, {32768, 0}, {0x7FFFFF80, -128}, {MAX, -1}, {MIN, 0}, {-1, -1}});
        x.set(0, 0, 256 + 5);
        Due.is("what it is then", item(x, 0, 0), 5);
        Due.is("the other ITEM", item(x, 0, 1), 0);
        x.set(0, 0, 128);
        Due.is("what is no NOTE then", item(x, 0, 0), BAD);
    }

    private static void setCutsShorts() {
        Due.says("Promise 3", "ITEM i becomes v, its lowest bits, as many as the LANE has: what it is then.");
        JamSongs x = Due.kitchen(READER);
        x.row(0, 1, 2);
        cut(x, 0, new int[][] {{127, 127}, {128, 128}, {32767, 32767}, {32768, -32768}, {-32768, -32768},
            {-32769, 32767}, {65535, -1}, {65536, 0}, {65537, 1}, {-65536, 0}, {MAX, -1}, {MIN, 0}});
        x.set(0, 0, 65536 + 6);
        Due.is("what it is then", item(x, 0, 0), 6);
        x.set(0, 0, 256);
        Due.is("what is no NOTE then", item(x, 0, 0), BAD);
    }

    private static void setLeavesInts() {
        Due.says("Promise 3", "ITEM i becomes v, its lowest bits, as many as the LANE has: what it is then.");
        JamSongs x = Due.kitchen(READER);
        x.row(0, 2, 2);
        cut(x, 0, new int[][] {{128, 128}, {32768, 32768}, {65536, 65536}, {MAX, MAX}, {MIN, MIN}, {-1, -1}});
        x.set(0, 0, 7);
        Due.is("what it is then", item(x, 0, 0), 7);
        x.set(0, 0, 65536);
        Due.is("what is no NOTE then", item(x, 0, 0), BAD);
    }

    private static void setTakesEveryPlace() {
        Due.says("Promise 3", "ITEM i becomes v,");
        JamSongs x = Due.kitchen(READER);
        x.row(0, 0, 40);
        StringBuilder due = new StringBuilder();
        for (int i = 0; i < 40; i++) {
            Due.is("set(0, " + i + ", ..)", x.set(0, i, i % 8), i % 8);
            due.append(i % 8);
        }
        items("all 40", x, 0, due.toString());
    }

    private static void setRefuses() {
        Due.says("Promise 3", "BAD: ROW; NULL; PLACE.");
        JamSongs x = new JamSongs();
        x.row(0, 0, 3);
        x.row(7, 0, 40);
        Due.is("set(-1, 0, 0)", x.set(-1, 0, 0), BAD);
        Due.is("set(8, 0, 0)", x.set(8, 0, 0), BAD);
        Due.is("set(1, 0, 0)", x.set(1, 0, 0), NULL);
        Due.is("set(1, -1, 0)", x.set(1, -1, 0), NULL);
        Due.is("set(0, -1, 0)", x.set(0, -1, 0), PLACE);
        Due.is("set(0, 0, 0)", x.set(0, 0, 0), 0);
        Due.is("set(0, 2, 0)", x.set(0, 2, 0), 0);
        Due.is("set(0, 3, 0)", x.set(0, 3, 0), PLACE);
        Due.is("set(7, 39, 0)", x.set(7, 39, 0), 0);
        Due.is("set(7, 40, 0)", x.set(7, 40, 0), PLACE);
        Due.is("set(0, the least, 0)", x.set(0, MIN, 0), PLACE);
        Due.is("set(0, the most, 0)", x.set(0, MAX, 0), PLACE);
        x.row(2, 0, 0);
        Due.is("ITEM 0 of none", x.set(2, 0, 0), PLACE);
        Due.is("ITEM -1 of none", x.set(2, -1, 0), PLACE);
        x.drop(0);
        Due.is("set(0, 0, 0) behind drop(0)", x.set(0, 0, 0), NULL);
    }

    private static void copyTakes() {
        Due.says("Promise 4", "n ITEMS of a from i on come to b from j on,");
        JamSongs x = Due.kitchen(READER);
        Due.tune(x, 0, "12345");
        Due.tune(x, 1, "000");
        Due.is("to the beginning", x.copy(0, 3, 1, 0, 2), 2);
        items("to the beginning", x, 1, "450");
        Due.is("to the end", x.copy(0, 0, 1, 2, 1), 1);
        items("to the end", x, 1, "451");
        Due.is("all of it", x.copy(1, 0, 0, 2, 3), 3);
        items("all of it", x, 0, "12451");
        items("what it came from", x, 1, "451");
    }

    private static void copyAsTheyWereAhead() {
        Due.says("Promise 4", "as they were ahead: n.");
        JamSongs x = Due.kitchen(READER);
        Due.tune(x, 0, "12345");
        Due.is("up", x.copy(0, 0, 0, 1, 4), 4);
        items("up", x, 0, "11234");
        Due.tune(x, 0, "12345");
        Due.is("down", x.copy(0, 1, 0, 0, 4), 4);
        items("down", x, 0, "23455");
        Due.tune(x, 0, "12345");
        Due.is("upon itself", x.copy(0, 0, 0, 0, 5), 5);
        items("upon itself", x, 0, "12345");
        Due.is("two up", x.copy(0, 0, 0, 2, 3), 3);
        items("two up", x, 0, "12123");
    }

    private static void copyWholeRows() {
        Due.says("Promise 4", "n ITEMS of a from i on come to b from j on, as they were ahead: n.");
        JamSongs x = Due.kitchen(READER);
        for (int lane = 0; lane < 3; lane++) {
            x.row(0, lane, 40);
            x.row(7, lane, 40);
            x.set(0, 0, 3);
            x.set(0, 39, 5);
            Due.is("40 of LANE " + lane, x.copy(0, 0, 7, 0, 40), 40);
            items("40 of LANE " + lane, x, 7, "3" + "0".repeat(38) + "5");
            Due.is("41 of LANE " + lane, x.copy(0, 0, 7, 0, 41), PLACE);
        }
    }

    private static void copyOfNone() {
        Due.says("Promise 4", "n ITEMS of a from i on come to b from j on, as they were ahead: n.");
        JamSongs x = Due.kitchen(READER);
        Due.tune(x, 0, "123");
        Due.tune(x, 1, "456");
        x.row(2, 0, 0);
        Due.is("none, from the beginning", x.copy(0, 0, 1, 0, 0), 0);
        Due.is("none, from the end", x.copy(0, 3, 1, 3, 0), 0);
        Due.is("none, of a ROW of none", x.copy(2, 0, 1, 1, 0), 0);
        Due.is("none, to a ROW of none", x.copy(1, 1, 2, 0, 0), 0);
        Due.is("one, to a ROW of none", x.copy(1, 1, 2, 0, 1), PLACE);
        items("none came", x, 1, "456");
    }

    private static void copyRefusesRows() {
        Due.says("Promise 4", "BAD: ROWS; NULL;");
        JamSongs x = new JamSongs();
        x.row(0, 0, 3);
        x.row(7, 0, 3);
        Due.is("copy(-1, ..)", x.copy(-1, 0, 0, 0, 1), BAD);
        Due.is("copy(8, ..)", x.copy(8, 0, 0, 0, 1), BAD);
        Due.is("copy(.., -1, ..)", x.copy(0, 0, -1, 0, 1), BAD);
        Due.is("copy(.., 8, ..)", x.copy(0, 0, 8, 0, 1), BAD);
        Due.is("copy(0, .., 7, ..)", x.copy(0, 0, 7, 0, 1), 1);
        Due.is("copy(7, .., 0, ..)", x.copy(7, 0, 0, 0, 1), 1);
        Due.is("from a missing ROW", x.copy(1, 0, 0, 0, 1), NULL);
        Due.is("to a missing ROW", x.copy(0, 0, 1, 0, 1), NULL);
        Due.is("none to a missing ROW", x.copy(0, 0, 1, 0, 0), NULL);
        Due.is("from a missing ROW to itself", x.copy(1, 0, 1, 0, 0), NULL);
        Due.is("a missing ROW and no ROW", x.copy(1, 0, 8, 0, 0), BAD);
    }

    private static void copyRefusesLanes() {
        Due.says("Promise 4", "STORE;");
        JamSongs x = new JamSongs();
        for (int lane = 0; lane < 3; lane++) {
            x.row(lane, lane, 3);
            x.row(3 + lane, lane, 3);
        }
        for (int a = 0; a < 3; a++) {
            for (int b = 0; b < 3; b++) {
                Due.is("LANE " + a + " to " + b, x.copy(a, 0, 3 + b, 0, 1), a == b ? 1 : STORE);
                Due.is("none, LANE " + a + " to " + b, x.copy(a, 0, 3 + b, 0, 0), a == b ? 0 : STORE);
                Due.is("beyond, LANE " + a + " to " + b, x.copy(a, 0, 3 + b, 0, 4), a == b ? PLACE : STORE);
            }
        }
        Due.is("a missing ROW and another LANE", x.copy(6, 0, 0, 0, 1), NULL);
    }

    private static void copyRefusesPlaces() {
        Due.says("Promise 4", "PLACE (i, j, n below 0, or beyond an end).");
        JamSongs x = Due.kitchen(READER);
        Due.tune(x, 0, "123");
        Due.tune(x, 1, "4567");
        int[][] refused = {{-1, 0, 1}, {0, -1, 1}, {0, 0, -1}, {-1, 0, 0}, {0, -1, 0}, {1, 1, -1}, {2, 0, 2},
            {3, 0, 1}, {0, 3, 2}, {0, 4, 1}, {0, 0, 4}, {4, 0, 0}, {0, 5, 0}, {4, 0, -1}, {0, 5, -1},
            {MAX, 0, 1}, {0, MAX, 1}, {0, 0, MAX}, {MIN, 0, 1}, {0, MIN, 1}, {0, 0, MIN}, {MAX, 0, MAX},
            {0, MAX, MAX}, {1, 1, MAX}, {2, 2, MAX - 1}, {MIN, MIN, MIN}, {MAX, MAX, MAX}, {MAX, 0, 2}, {MIN, 0, MAX}};
        for (int[] r : refused) {
            Due.is("copy(0, " + r[0] + ", 1, " + r[1] + ", " + r[2] + ")", x.copy(0, r[0], 1, r[1], r[2]), PLACE);
        }
        items("nothing came", x, 1, "4567");
        Due.is("the last of a", x.copy(0, 2, 1, 0, 1), 1);
        Due.is("to the last of b", x.copy(0, 0, 1, 3, 1), 1);
        Due.is("all of a", x.copy(0, 0, 1, 1, 3), 3);
        Due.is("none from the end of a", x.copy(0, 3, 1, 0, 0), 0);
        Due.is("none to the end of b", x.copy(0, 0, 1, 4, 0), 0);
        items("what came", x, 1, "3123");
    }

    private static void dropTakes() {
        Due.says("Promise 5", "A ROW is missing from now on: how many ITEMS it had.");
        JamSongs x = Due.kitchen(READER);
        x.row(0, 0, 0);
        Due.tune(x, 7, "5".repeat(40));
        Due.is("none", x.drop(0), 0);
        Due.is("one ROW", x.count(0), 1);
        Due.is("40", x.drop(7), 40);
        Due.is("no ROW", x.count(0), 0);
        Due.is("it is missing", x.set(7, 0, 0), NULL);
        Due.is("it is missing for a TUNE", x.alone(0, 7, 0, 1), NULL);
        Due.is("it is missing for a copy", x.copy(7, 0, 7, 0, 0), NULL);
        Due.is("the ROW anew", x.row(7, 0, 3), 3);
        items("the ROW anew", x, 7, "000");
    }

    private static void dropRefuses() {
        Due.says("Promise 5", "BAD; NULL.");
        JamSongs x = new JamSongs();
        x.row(0, 0, 1);
        x.row(7, 0, 2);
        Due.is("drop(-1)", x.drop(-1), BAD);
        Due.is("drop(8)", x.drop(8), BAD);
        Due.is("drop(1)", x.drop(1), NULL);
        Due.is("drop(0)", x.drop(0), 1);
        Due.is("drop(0) again", x.drop(0), NULL);
        Due.is("drop(7)", x.drop(7), 2);
        Due.is("drop(7) again", x.drop(7), NULL);
    }
}
