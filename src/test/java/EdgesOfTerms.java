/** The edges of what 'Terms' says of numbers, fractions, sets, refusals and findings at large. */
final class EdgesOfTerms {
    private static final int BAD = JamSongs.BAD, STATE = JamSongs.STATE, FULL = JamSongs.FULL, NONE = JamSongs.NONE;
    private static final int NULL = -1000011, PLACE = -1000012, KIND = -1000013, SIZE = -1000014, STORE = -1000015;
    private static final String TERMS = "Terms";

    private EdgesOfTerms() { }

    static void all() {
        numbersGoFrom0On();
        fractionsAreInLowestTerms();
        setsAreBits();
        theFirstThatFits();
        theFirstThatFitsOfTheForetold();
        butAsTold();
        badNumbers();
        stateAndFull();
        findingsHaveNumbers();
        theFirstFindingInTime();
        whatIsFoundChangesNothing();
        whatIsRefusedChangesNothing();
        whatIsRefusedWithoutAKitchen();
    }

    private static void numbersGoFrom0On() {
        Due.says(TERMS, "Numbers go from 0 on.");
        JamSongs x = new JamSongs();
        Due.is("row(0, 0, 1)", x.row(0, 0, 1), 1);
        Due.is("row(-1, 0, 1)", x.row(-1, 0, 1), BAD);
        Due.is("ITEM 0", x.set(0, 0, 3), 3);
        Due.is("ITEM 1 of 1", x.set(0, 1, 3), PLACE);
        Due.read(x, "j1;s2,6,9;p4,1,1;");
        Due.is("the first SINGER", x.singer(0, 0), 2);
        Due.is("SINGER 1 of 1", x.singer(1, 0), BAD);
        Due.is("the first PAN", x.pan(0, 0), 4);
        Due.is("PAN 1 of 1", x.pan(1, 0), BAD);
        Due.is("the first BAR", x.count(3), 0);
        x.bar(7, 7, 7);
        Due.is("the second BAR", x.count(3), 1);
        Due.is("the first IMAGE", x.image(0), 1);
        Due.is("PAN 0 is set by the first SINGER", x.bar(2, 7, 7), 1);
        x.ask(0, 0);
        Due.is("the first of THE TRACE", x.trace(0), 11);
    }

    private static void fraction(JamSongs x, int pan, int n, int c, int above, int below) {
        String call = "coughs(" + pan + ", .., " + n + ", " + c + ", ";
        Due.is(call + "0)", x.coughs(pan, 0, 0, 0, n, c, 0), above);
        Due.is(call + "1)", x.coughs(pan, 0, 0, 0, n, c, 1), below);
    }

    private static void fractionsAreInLowestTerms() {
        Due.says(TERMS, "All that is divided is cut towards 0, but fractions, told as two numbers in lowest terms "
            + "(0 is 0 by 1).");
        JamSongs x = Due.kitchen("j1;s0,6,9;p1,1,1;p1,2,1;m1,1,1;");
        Due.tune(x, 0, "00000000");
        fraction(x, 0, 1, 5, 1, 2);
        fraction(x, 0, 1, 3, 7, 10);
        fraction(x, 1, 2, 4, 9, 25);
        fraction(x, 1, 2, 9, 1, 100);
        fraction(x, 1, 2, 0, 1, 1);
        fraction(x, 1, 1, 5, 0, 1);
        fraction(x, 2, 8, 5, 0, 1);
        fraction(x, 0, 8, 9, 56953279, 100000000);
    }

    private static void setsAreBits() {
        Due.says(TERMS, "Sets are bits.");
        JamSongs x = Due.kitchen("j1;s0,6,9;s0,6,9;s0,6,9;p127,1,7;p127,1,7;p127,1,7;p64,1,7;p1,1,4;");
        Due.is("none is SET", x.count(5), 0);
        Due.is("MODE of all NOTES", x.pan(0, 0), 127);
        Due.is("MODE of the last NOTE", x.pan(3, 0), 64);
        Due.is("HEARS all", x.pan(0, 2), 7);
        Due.is("HEARS the last", x.pan(4, 2), 4);
        Due.is("the first three are SET", x.bar(5, 7, 7), 7);
        Due.is("the fourth, too", x.bar(6, 7, 7), 15);
        Due.is("all are SET", x.bar(7, 7, 0), 31);
        Due.is("count(5)", x.count(5), 31);
    }

    private static void theFirstThatFits() {
        Due.says(TERMS, "Refusals are answers, the first of these that fits, but as told:");
        JamSongs x = Twins.story();
        Due.is("row: BAD ahead of SIZE", x.row(8, 0, -1), BAD);
        Due.is("row: BAD of the LANE ahead of SIZE", x.row(0, 3, -1), BAD);
        Due.is("set: BAD ahead of NULL and PLACE", x.set(8, -1, 0), BAD);
        Due.is("set: NULL ahead of PLACE", x.set(3, -1, 0), NULL);
        Due.is("copy: BAD of a ahead of NULL of b", x.copy(8, 0, 3, 0, 0), BAD);
        Due.is("copy: BAD of b ahead of NULL of a", x.copy(3, 0, 8, 0, 0), BAD);
        Due.is("copy: NULL of a ahead of PLACE", x.copy(3, -1, 0, 9, 1), NULL);
        Due.is("copy: NULL of b ahead of PLACE", x.copy(0, -1, 3, 9, 1), NULL);
        Due.is("copy: STORE ahead of PLACE", x.copy(0, -1, 1, 9, -1), STORE);
        Due.is("window: BAD of the PAN ahead of STATE", x.window(5, 0, 1), BAD);
        Due.is("window: BAD of is ahead of STATE", x.window(0, 0, 2), BAD);
        Due.is("bar: BAD of the last ahead of STATE of the first two", x.bar(9, 0, 8), BAD);
        Due.is("restore: BAD ahead of STATE", x.restore(2), BAD);
        Due.is("image: BAD ahead of STATE", new JamSongs().image(2), BAD);
        Due.is("as: BAD of the KIND ahead of KIND", x.as(0, 6), BAD);
        Due.is("as: BAD of the PAN ahead of KIND", x.as(5, 5), BAD);
        for (int k = 0; k < 118; k++) {
            x.feed(0);
        }
        Due.is("feed: FULL", x.feed(0), FULL);
        Due.is("feed: BAD ahead of FULL", x.feed(-1), BAD);
    }

    private static void theFirstThatFitsOfTheForetold() {
        Due.says(TERMS, "Refusals are answers, the first of these that fits, but as told:");
        JamSongs x = Twins.story();
        Due.is("alone: BAD of the SINGER ahead of NULL", x.alone(3, 3, -1, 1), BAD);
        Due.is("alone: NULL ahead of PLACE", x.alone(0, 3, -1, 1), NULL);
        Due.is("alone: PLACE ahead of BAD of an ITEM", x.alone(0, 2, 19, 2), PLACE);
        Due.is("round: BAD of d ahead of NULL", x.round(9, 3, -1, 1), BAD);
        Due.is("round: NULL ahead of PLACE", x.round(0, 3, -1, 1), NULL);
        Due.is("round: PLACE ahead of BAD of an ITEM", x.round(0, 2, 19, 2), PLACE);
        Due.is("bestRound: BAD of what ahead of NULL", x.bestRound(3, -1, 1, 2), BAD);
        Due.is("bestRound: NULL ahead of PLACE", x.bestRound(3, -1, 1, 0), NULL);
        Due.is("bestRound: PLACE ahead of BAD of an ITEM", x.bestRound(2, 19, 2, 0), PLACE);
        Due.is("toShut: BAD of what ahead of NULL", x.toShut(0, 0, 3, -1, 1, 2), BAD);
        Due.is("toShut: NULL ahead of PLACE", x.toShut(0, 0, 3, -1, 1, 0), NULL);
        Due.is("toShut: PLACE ahead of BAD of an ITEM", x.toShut(0, 0, 2, 19, 2, 0), PLACE);
        Due.is("modes: BAD of THICK ahead of NULL", x.modes(0, 0, 3, -1, 1, 21, 0), BAD);
        Due.is("modes: NULL ahead of PLACE", x.modes(0, 0, 3, -1, 1, 0, 0), NULL);
        Due.is("modes: PLACE ahead of BAD of an ITEM", x.modes(0, 0, 2, 19, 2, 0, 0), PLACE);
        Due.is("coughs: BAD of c ahead of NULL", x.coughs(0, 0, 3, -1, 1, 11, 0), BAD);
        Due.is("coughs: NULL ahead of PLACE", x.coughs(0, 0, 3, -1, 1, 0, 0), NULL);
        Due.is("coughs: PLACE ahead of BAD of an ITEM", x.coughs(0, 0, 2, 19, 2, 0, 0), PLACE);
    }

    private static void butAsTold() {
        Due.says(TERMS, "Refusals are answers, the first of these that fits, but as told:");
        JamSongs x = Twins.bareStory();
        Due.is("bar: STATE ahead of BAD", x.bar(-1, 8, 9), STATE);
        Due.is("round: STATE ahead of BAD", x.round(9, 8, 0, 17), STATE);
        Due.is("round: STATE ahead of NULL", x.round(0, 3, 0, 1), STATE);
        Due.is("round: STATE ahead of PLACE", x.round(0, 0, 9, 1), STATE);
        Due.is("bestRound: STATE ahead of BAD", x.bestRound(8, 0, 17, 2), STATE);
        Due.is("bestRound: STATE ahead of NULL", x.bestRound(3, 0, 1, 0), STATE);
        Due.is("bestRound: STATE ahead of PLACE", x.bestRound(0, 9, 1, 0), STATE);
    }

    private static void badNumbers() {
        Due.says(TERMS, "BAD (a number is not as told; there is no such thing)");
        Due.is("BAD", JamSongs.BAD, -1000001);
        JamSongs x = new JamSongs();
        Due.is("no PAN 0 yet", x.pan(0, 0), BAD);
        Due.is("no SINGER 0 yet", x.singer(0, 0), BAD);
        Due.read(x, "j1;s0,6,9;p1,1,1;");
        Due.is("PAN 0", x.pan(0, 1), 1);
        Due.is("no PAN 1", x.pan(1, 1), BAD);
        Due.is("SINGER 0", x.singer(0, 1), 6);
        Due.is("no SINGER 1", x.singer(1, 1), BAD);
        int[] far = {Integer.MIN_VALUE, Integer.MIN_VALUE + 1, -1, Integer.MAX_VALUE - 1, Integer.MAX_VALUE};
        for (int f : far) {
            int[] got = {x.row(f, 0, 0), x.row(0, f, 0), x.set(f, 0, 0), x.copy(f, 0, 0, 0, 0), x.copy(0, 0, f, 0, 0),
                x.drop(f), x.feed(f), x.bar(f, 7, 7), x.bar(7, f, 7), x.bar(7, 7, f), x.window(f, 0, 0),
                x.window(0, f, 0), x.window(0, 0, f), x.pan(f, 0), x.pan(0, f), x.singer(f, 0), x.singer(0, f),
                x.image(f), x.restore(f), x.kind(f), x.as(f, 0), x.as(0, f), x.ask(f, 0), x.ask(0, f), x.count(f)};
            for (int k = 0; k < got.length; k++) {
                Due.is("call " + k + " with " + f, got[k], BAD);
            }
        }
    }

    private static void stateAndFull() {
        Due.says(TERMS, ", STATE (as told), FULL (as told),");
        Due.is("STATE", JamSongs.STATE, -1000002);
        Due.is("FULL", JamSongs.FULL, -1000003);
        JamSongs x = new JamSongs();
        int[] got = {x.bar(7, 7, 7), x.undo(), x.round(0, 0, 0, 0), x.bestRound(0, 0, 0, 0), x.image(0), x.image(1),
            x.restore(0), x.restore(1)};
        for (int k = 0; k < got.length; k++) {
            Due.is("of a new object, call " + k, got[k], STATE);
        }
        int[] others = {x.window(0, 0, 1), x.alone(0, 0, 0, 0), x.song(0, 0, -1), x.toShut(0, 0, 0, 0, 0, 0),
            x.modes(0, 0, 0, 0, 0, 0, 0), x.coughs(0, 0, 0, 0, 0, 0, 0), x.kind(0), x.as(0, 0), x.ask(0, 0)};
        for (int k = 0; k < others.length; k++) {
            Due.is("STATE is not told of it, call " + k, others[k], BAD);
        }
        for (int k = 1; k <= 120; k++) {
            Due.is("feed " + k, x.feed('j'), k);
        }
        Due.is("feed 121", x.feed('j'), FULL);
    }

    private static void found(String call, int got, JamSongs x, int due, int number) {
        Due.is(call, got, due);
        Due.is("status() behind " + call, x.status(), number);
    }

    private static void findingsHaveNumbers() {
        Due.says(TERMS, "-1000010 less 1 NULL (a ROW that is missing), 2 PLACE (no such place of a ROW), "
            + "3 KIND (a PAN that is not that), 4 SIZE (fewer than none), 5 STORE (ROWS of two LANES).");
        JamSongs x = Twins.story();
        found("set of a missing ROW", x.set(3, 0, 0), x, NULL, 1);
        found("set of ITEM 7 of 8", x.set(0, 7, 7), x, 7, 0);
        found("set of ITEM 8 of 8", x.set(0, 8, 7), x, PLACE, 2);
        found("plums are PLUM", x.as(0, 1), x, 0, 0);
        found("plums are not CHERRY", x.as(0, 2), x, KIND, 3);
        found("row of none", x.row(7, 0, 0), x, 0, 0);
        found("row of fewer than none", x.row(7, 0, -1), x, SIZE, 4);
        found("ROWS of one LANE", x.copy(0, 0, 5, 0, 1), x, 1, 0);
        found("ROWS of bytes and shorts", x.copy(0, 0, 1, 0, 1), x, STORE, 5);
        found("ROWS of bytes and ints", x.copy(0, 0, 2, 0, 1), x, STORE, 5);
        found("ROWS of ints and shorts", x.copy(2, 0, 1, 0, 1), x, STORE, 5);
    }

    private static void theFirstFindingInTime() {
        Due.says(TERMS, "then FINDINGS, of several the first in time:");
        JamSongs x = Twins.story();
        found("NULL and PLACE", x.set(3, 99, 0), x, NULL, 1);
        found("NULL and PLACE of a", x.copy(0, 99, 3, 0, 1), x, NULL, 1);
        found("STORE and PLACE", x.copy(0, 99, 1, 99, 99), x, STORE, 5);
        found("NULL and PLACE of a TUNE", x.alone(0, 3, 99, 16), x, NULL, 1);
    }

    private static void whatIsFoundChangesNothing() {
        Due.says(TERMS, "What is refused, or found, changes nothing but status().");
        Twins.refuses("row(0, 1, -1)", SIZE, x -> x.row(0, 1, -1));
        Twins.refuses("row(3, 1, -1)", SIZE, x -> x.row(3, 1, -1));
        Twins.refuses("set(3, 0, 1)", NULL, x -> x.set(3, 0, 1));
        Twins.refuses("set(0, 8, 1)", PLACE, x -> x.set(0, 8, 1));
        Twins.refuses("set(0, -1, 1)", PLACE, x -> x.set(0, -1, 1));
        Twins.refuses("copy(3, 0, 0, 0, 1)", NULL, x -> x.copy(3, 0, 0, 0, 1));
        Twins.refuses("copy(0, 0, 3, 0, 1)", NULL, x -> x.copy(0, 0, 3, 0, 1));
        Twins.refuses("copy(0, 1, 1, 0, 2)", STORE, x -> x.copy(0, 1, 1, 0, 2));
        Twins.refuses("copy(0, 1, 5, 35, 6)", PLACE, x -> x.copy(0, 1, 5, 35, 6));
        Twins.refuses("copy(0, 1, 0, 0, 8)", PLACE, x -> x.copy(0, 1, 0, 0, 8));
        Twins.refuses("drop(3)", NULL, x -> x.drop(3));
        Twins.refuses("alone(0, 3, 0, 1)", NULL, x -> x.alone(0, 3, 0, 1));
        Twins.refuses("alone(0, 0, 0, 9)", PLACE, x -> x.alone(0, 0, 0, 9));
        Twins.refuses("round(1, 3, 0, 1)", NULL, x -> x.round(1, 3, 0, 1));
        Twins.refuses("round(1, 0, 0, 9)", PLACE, x -> x.round(1, 0, 0, 9));
        Twins.refuses("bestRound(3, 0, 1, 0)", NULL, x -> x.bestRound(3, 0, 1, 0));
        Twins.refuses("bestRound(0, 0, 9, 0)", PLACE, x -> x.bestRound(0, 0, 9, 0));
        Twins.refuses("toShut(0, 1, 3, 0, 1, 0)", NULL, x -> x.toShut(0, 1, 3, 0, 1, 0));
        Twins.refuses("toShut(0, 1, 0, 0, 9, 0)", PLACE, x -> x.toShut(0, 1, 0, 0, 9, 0));
        Twins.refuses("modes(0, 1, 3, 0, 1, 0, 0)", NULL, x -> x.modes(0, 1, 3, 0, 1, 0, 0));
        Twins.refuses("modes(0, 1, 0, 0, 9, 0, 0)", PLACE, x -> x.modes(0, 1, 0, 0, 9, 0, 0));
        Twins.refuses("coughs(0, 1, 3, 0, 1, 5, 0)", NULL, x -> x.coughs(0, 1, 3, 0, 1, 5, 0));
        Twins.refuses("coughs(0, 1, 0, 1, 8, 5, 0)", PLACE, x -> x.coughs(0, 1, 0, 1, 8, 5, 0));
        Twins.refuses("as(0, 2)", KIND, x -> x.as(0, 2));
        Twins.refuses("as(4, 3)", KIND, x -> x.as(4, 3));
    }

    private static void whatIsRefusedChangesNothing() {
        Due.says(TERMS, "What is refused, or found, changes nothing but status().");
        Twins.refuses("row(8, 0, 1)", BAD, x -> x.row(8, 0, 1));
        Twins.refuses("row(0, 3, 1)", BAD, x -> x.row(0, 3, 1));
        Twins.refuses("row(0, 0, 41)", BAD, x -> x.row(0, 0, 41));
        Twins.refuses("set(8, 0, 1)", BAD, x -> x.set(8, 0, 1));
        Twins.refuses("copy(8, 0, 0, 0, 1)", BAD, x -> x.copy(8, 0, 0, 0, 1));
        Twins.refuses("copy(0, 0, 8, 0, 1)", BAD, x -> x.copy(0, 0, 8, 0, 1));
        Twins.refuses("drop(8)", BAD, x -> x.drop(8));
        Twins.refuses("feed(256)", BAD, x -> x.feed(256));
        Twins.refuses("feed(-1)", BAD, x -> x.feed(-1));
        Twins.refuses("bar(0, 0, 8)", BAD, x -> x.bar(0, 0, 8));
        Twins.refuses("bar(0, 0, 7)", STATE, x -> x.bar(0, 0, 7));
        Twins.refuses("bar(0, 1, 3)", STATE, x -> x.bar(0, 1, 3));
        Twins.refuses("window(5, 0, 1)", BAD, x -> x.window(5, 0, 1));
        Twins.refuses("window(0, 0, 1)", STATE, x -> x.window(0, 0, 1));
        Twins.refuses("window(0, 1, 0)", STATE, x -> x.window(0, 1, 0));
        Twins.refuses("pan(5, 0)", BAD, x -> x.pan(5, 0));
        Twins.refuses("singer(3, 0)", BAD, x -> x.singer(3, 0));
        Twins.refuses("alone(0, 2, 19, 1)", BAD, x -> x.alone(0, 2, 19, 1));
        Twins.refuses("round(9, 0, 0, 1)", BAD, x -> x.round(9, 0, 0, 1));
        Twins.refuses("round(0, 1, 0, 4)", BAD, x -> x.round(0, 1, 0, 4));
        Twins.refuses("bestRound(0, 0, 1, 2)", BAD, x -> x.bestRound(0, 0, 1, 2));
        Twins.refuses("song(0, 5, 0)", BAD, x -> x.song(0, 5, 0));
        Twins.refuses("song(0, 4, 4)", BAD, x -> x.song(0, 4, 4));
        Twins.refuses("toShut(0, 0, 1, 0, 2, 0)", BAD, x -> x.toShut(0, 0, 1, 0, 2, 0));
        Twins.refuses("modes(0, 0, 1, 1, 2, 0, 0)", BAD, x -> x.modes(0, 0, 1, 1, 2, 0, 0));
        Twins.refuses("coughs(0, 0, 1, 1, 2, 0, 0)", BAD, x -> x.coughs(0, 0, 1, 1, 2, 0, 0));
        Twins.refuses("image(2)", BAD, x -> x.image(2));
        Twins.refuses("restore(2)", BAD, x -> x.restore(2));
        Twins.refuses("restore(1)", STATE, x -> x.restore(1));
        Twins.refuses("kind(5)", BAD, x -> x.kind(5));
        Twins.refuses("as(5, 0)", BAD, x -> x.as(5, 0));
        Twins.refuses("ask(5, 0)", BAD, x -> x.ask(5, 0));
        Twins.refuses("ask(0, 2)", BAD, x -> x.ask(0, 2));
        Twins.refuses("count(8)", BAD, x -> x.count(8));
        Twins.refuses("trace(16)", NONE, x -> x.trace(16));
    }

    private static void whatIsRefusedWithoutAKitchen() {
        Due.says(TERMS, "What is refused, or found, changes nothing but status().");
        Twins.refusesWithoutKitchen("bar(7, 7, 7)", STATE, x -> x.bar(7, 7, 7));
        Twins.refusesWithoutKitchen("window(0, 0, 1)", BAD, x -> x.window(0, 0, 1));
        Twins.refusesWithoutKitchen("undo()", STATE, x -> x.undo());
        Twins.refusesWithoutKitchen("round(0, 0, 0, 8)", STATE, x -> x.round(0, 0, 0, 8));
        Twins.refusesWithoutKitchen("bestRound(0, 0, 8, 0)", STATE, x -> x.bestRound(0, 0, 8, 0));
        Twins.refusesWithoutKitchen("alone(0, 0, 0, 8)", BAD, x -> x.alone(0, 0, 0, 8));
        Twins.refusesWithoutKitchen("song(0, 0, -1)", BAD, x -> x.song(0, 0, -1));
        Twins.refusesWithoutKitchen("image(0)", STATE, x -> x.image(0));
        Twins.refusesWithoutKitchen("restore(0)", STATE, x -> x.restore(0));
        Twins.refusesWithoutKitchen("as(0, 0)", BAD, x -> x.as(0, 0));
        Twins.refusesWithoutKitchen("ask(0, 0)", BAD, x -> x.ask(0, 0));
        Twins.refusesWithoutKitchen("row(0, 0, -1)", SIZE, x -> x.row(0, 0, -1));
        Twins.refusesWithoutKitchen("drop(3)", NULL, x -> x.drop(3));
    }
}
