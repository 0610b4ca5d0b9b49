/** Promises 1 to 5, and 28 as far as rows go. */
public final class RowsTest {
    private static final int BAD = JamSongs.BAD, NULL = -1000011, PLACE = -1000012, SIZE = -1000014, STORE = -1000015;

    public static void main(String[] args) {
        aNewObject();
        rowsAreMade();
        itemsAreCut();
        itemsAreCopied();
        rowsAreDropped();
        statusStays();
        Due.end("RowsTest");
    }

    private static void aNewObject() {
        JamSongs x = new JamSongs();
        for (int what = 0; what < 8; what++) {
            Due.is("count(" + what + ") at first", x.count(what), 0);
        }
        Due.is("status at first", x.status(), 0);
        Due.is("fault at first", x.fault(), 0);
        Due.is("trace at first", x.trace(0), JamSongs.NONE);
        Due.is("bar without a kitchen", x.bar(7, 7, 7), JamSongs.STATE);
        Due.is("round without a kitchen", x.round(0, 0, 0, 0), JamSongs.STATE);
        Due.is("image without a kitchen", x.image(0), JamSongs.STATE);
        for (int r = 0; r < 8; r++) {
            Due.is("row " + r + " is missing", x.set(r, 0, 0), NULL);
        }
    }

    private static void rowsAreMade() {
        JamSongs x = new JamSongs();
        Due.is("row(0, 0, 0)", x.row(0, 0, 0), 0);
        Due.is("row(7, 2, 40)", x.row(7, 2, 40), 40);
        Due.is("two rows", x.count(0), 2);
        Due.is("the last place", x.set(7, 39, 5), 5);
        Due.is("row(7, 2, 40) anew", x.row(7, 2, 40), 40);
        Due.is("still two rows", x.count(0), 2);
        x.row(6, 2, 1);
        x.set(6, 0, 9);
        x.copy(7, 39, 6, 0, 1);
        Due.tune(x, 5, "7");
        Due.is("row(-1, 0, 1)", x.row(-1, 0, 1), BAD);
        Due.is("row(8, 0, 1)", x.row(8, 0, 1), BAD);
        Due.is("row(0, -1, 1)", x.row(0, -1, 1), BAD);
        Due.is("row(0, 3, 1)", x.row(0, 3, 1), BAD);
        Due.is("row(0, 0, 41)", x.row(0, 0, 41), BAD);
        Due.is("row(0, 0, max)", x.row(0, 0, Integer.MAX_VALUE), BAD);
        Due.is("BAD ahead of SIZE", x.row(0, 3, -1), BAD);
        Due.is("row(7, 0, -1)", x.row(7, 0, -1), SIZE);
        Due.is("a row found stays", x.set(7, 39, 1), 1);
        Due.is("row(7, 0, min)", x.row(7, 0, Integer.MIN_VALUE), SIZE);
        Due.is("status 4", x.status(), 4);
        itemsAreNothingAtFirst();
    }

    private static void itemsAreNothingAtFirst() {
        JamSongs x = Due.kitchen("j1;s0,6,9;p1,1,1;");
        x.row(0, 0, 3);
        x.set(0, 1, 5);
        x.row(0, 0, 3);
        x.row(0, 0, 3);
        Due.is("items of a row anew are 0", x.alone(0, 0, 1, 1), 1);
        x.set(0, 1, 5);
        Due.is("an item that was put", x.alone(0, 0, 1, 1), 0);
    }

    private static void itemsAreCut() {
        JamSongs x = new JamSongs();
        x.row(0, 0, 1);
        x.row(1, 1, 2);
        x.row(2, 2, 3);
        Due.is("a byte", x.set(0, 0, 127), 127);
        Due.is("a byte cut", x.set(0, 0, 128), -128);
        Due.is("a byte cut to none", x.set(0, 0, 256), 0);
        Due.is("a byte below", x.set(0, 0, -129), 127);
        Due.is("a short", x.set(1, 1, 32767), 32767);
        Due.is("a short cut", x.set(1, 1, 32768), -32768);
        Due.is("a short below", x.set(1, 1, -32769), 32767);
        Due.is("an int", x.set(2, 2, Integer.MIN_VALUE), Integer.MIN_VALUE);
        Due.is("set(-1, 0, 0)", x.set(-1, 0, 0), BAD);
        Due.is("set(8, 0, 0)", x.set(8, 0, 0), BAD);
        Due.is("set of one missing", x.set(3, 0, 0), NULL);
        Due.is("NULL ahead of PLACE", x.set(3, -1, 0), NULL);
        Due.is("place -1", x.set(0, -1, 0), PLACE);
        Due.is("place 1 of 1", x.set(0, 1, 0), PLACE);
        Due.is("place min", x.set(0, Integer.MIN_VALUE, 0), PLACE);
        Due.is("place max", x.set(0, Integer.MAX_VALUE, 0), PLACE);
        x.row(0, 0, 0);
        Due.is("place 0 of none", x.set(0, 0, 0), PLACE);
    }

    private static void itemsAreCopied() {
        JamSongs x = Due.kitchen("j1;s0,6,9;p127,20,1;q127,20,1;p2,1,1;p8,1,1;");
        Due.tune(x, 0, "1234");
        Due.tune(x, 1, "00");
        Due.is("copy within, up", x.copy(0, 0, 0, 1, 3), 3);
        Due.is("1123: 1 is heard, not 3 yet", x.alone(0, 0, 0, 2), 4);
        Due.is("1123: as they were ahead", x.alone(0, 0, 2, 2), 8);
        Due.tune(x, 0, "1234");
        Due.is("copy within, down", x.copy(0, 1, 0, 0, 3), 3);
        Due.is("2344: the second is 3", x.alone(0, 0, 1, 1), 8);
        Due.is("copy to another", x.copy(0, 1, 1, 1, 1), 1);
        Due.is("03", x.alone(0, 1, 1, 1), 8);
        Due.is("none at the ends", x.copy(0, 4, 1, 2, 0), 0);
        Due.is("copy(-1,..)", x.copy(-1, 0, 0, 0, 0), BAD);
        Due.is("copy to 8", x.copy(0, 0, 8, 0, 0), BAD);
        Due.is("BAD ahead of NULL", x.copy(5, 0, 8, 0, 0), BAD);
        Due.is("from one missing", x.copy(5, 0, 0, 0, 0), NULL);
        Due.is("to one missing", x.copy(0, 9, 5, 0, 0), NULL);
        x.row(2, 1, 4);
        Due.is("two lanes", x.copy(0, 0, 2, 0, 0), STORE);
        Due.is("STORE ahead of PLACE", x.copy(0, -1, 2, 0, 0), STORE);
        Due.is("status 5", x.status(), 5);
        Due.is("i below", x.copy(0, -1, 1, 0, 1), PLACE);
        Due.is("j below", x.copy(0, 0, 1, -1, 1), PLACE);
        Due.is("n below", x.copy(0, 0, 1, 0, -1), PLACE);
        Due.is("i beyond", x.copy(0, 3, 1, 0, 2), PLACE);
        Due.is("j beyond", x.copy(0, 0, 1, 1, 2), PLACE);
        Due.is("i beyond with none", x.copy(0, 5, 1, 0, 0), PLACE);
        Due.is("j beyond with none", x.copy(0, 0, 1, 3, 0), PLACE);
        int max = Integer.MAX_VALUE;
        Due.is("a sum that wraps", x.copy(0, max, 1, 0, max), PLACE);
        Due.is("n max", x.copy(0, 1, 1, 1, max), PLACE);
        Due.is("n min", x.copy(0, 0, 1, 0, Integer.MIN_VALUE), PLACE);
        Due.is("what was found changed nothing", x.alone(0, 1, 1, 1), 8);
    }

    private static void rowsAreDropped() {
        JamSongs x = new JamSongs();
        x.row(3, 1, 17);
        Due.is("drop(-1)", x.drop(-1), BAD);
        Due.is("drop(8)", x.drop(8), BAD);
        Due.is("drop(2)", x.drop(2), NULL);
        Due.is("drop(3)", x.drop(3), 17);
        Due.is("no rows", x.count(0), 0);
        Due.is("drop(3) again", x.drop(3), NULL);
        Due.is("set of it", x.set(3, 0, 1), NULL);
    }

    private static void statusStays() {
        JamSongs x = Due.kitchen("j1;s0,6,9;p127,20,1;");
        x.drop(0);
        Due.is("status 1", x.status(), 1);
        x.row(9, 0, 0);
        x.feed(300);
        x.round(9, 0, 0, 0);
        x.count(0);
        x.song(0, 1, -1);
        Due.is("BAD and calls without rows leave it", x.status(), 1);
        x.row(0, 0, 1);
        Due.is("a row without a finding", x.status(), 0);
        x.set(0, 1, 0);
        Due.is("status 2", x.status(), 2);
        x.set(0, 0, 8);
        x.set(0, 2, 8);
        Due.is("an item that is none", x.alone(0, 0, 0, 1), BAD);
        Due.is("it was BAD, and leaves it", x.status(), 2);
        x.set(0, 0, 7);
        x.alone(0, 1, 0, 1);
        Due.is("alone found", x.status(), 1);
        x.alone(0, 0, 0, 1);
        Due.is("alone found none", x.status(), 0);
        x.as(0, 2);
        Due.is("status 3", x.status(), 3);
        x.as(0, 6);
        Due.is("as BAD leaves it", x.status(), 3);
        x.as(0, 1);
        Due.is("as found none", x.status(), 0);
        rowsLeaveIt(x);
        everyForetoldLeavesIt(x);
    }

    private static void rowsLeaveIt(JamSongs x) {
        x.drop(5);
        x.set(0, 0, 7);
        Due.is("set found none", x.status(), 0);
        x.drop(5);
        x.copy(0, 0, 0, 0, 1);
        Due.is("copy found none", x.status(), 0);
        x.row(6, 0, 1);
        x.drop(5);
        x.drop(6);
        Due.is("drop found none", x.status(), 0);
    }

    private static void everyForetoldLeavesIt(JamSongs x) {
        for (int call = 0; call < 5; call++) {
            Due.is("foretold " + call + " of a missing row", foretold(x, call, 1, 0), NULL);
            Due.is("foretold " + call + " leaves 1", x.status(), 1);
            Due.is("foretold " + call + " beyond", foretold(x, call, 0, 1), PLACE);
            Due.is("foretold " + call + " leaves 2", x.status(), 2);
            foretold(x, call, 0, 0);
            Due.is("foretold " + call + " leaves 0", x.status(), 0);
        }
    }

    private static int foretold(JamSongs x, int call, int row, int i) {
        switch (call) {
            case 0: return x.round(0, row, i, 1);
            case 1: return x.bestRound(row, i, 1, 0);
            case 2: return x.toShut(0, 0, row, i, 1, 0);
            case 3: return x.modes(0, 0, row, i, 1, 0, 0);
            default: return x.coughs(0, 0, row, i, 1, 0, 0);
        }
    }
}
