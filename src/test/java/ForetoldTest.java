/** Promises 14 to 20: what is foretold. */
public final class ForetoldTest {
    private static final int BAD = JamSongs.BAD, STATE = JamSongs.STATE, NONE = JamSongs.NONE;
    private static final int NULL = -1000011, PLACE = -1000012;

    public static void main(String[] args) {
        alone();
        rounds();
        roundsOfFew();
        bestRounds();
        songs();
        shut();
        modes();
        coughs();
        refusals();
        nothingChanges();
        Due.end("ForetoldTest");
    }

    private static void alone() {
        JamSongs x = Due.kitchen("j1;s0,4,2;s2,6,9;p1,3,1;p1,4,1;p31,2,2;d0,3,2;");
        Due.tune(x, 0, "0000000050700000");
        Due.is("none", x.alone(0, 0, 0, 0), 0);
        Due.is("two, and a rest for breath", x.alone(0, 0, 0, 3), 8);
        Due.is("then it sings on", x.alone(0, 0, 0, 4), 9);
        Due.is("and once more", x.alone(0, 0, 0, 5), 11);
        Due.is("5 is a rest", x.alone(0, 0, 8, 1), 0);
        Due.is("16 at most", x.alone(0, 0, 0, 16), 11);
        Due.is("one that cannot sing it rests", x.alone(1, 0, 0, 3), 8);
        Due.tune(x, 1, "23");
        Due.is("the other", x.alone(1, 1, 0, 2), 4);
        x.bar(0, 7, 7);
        x.bar(0, 7, 7);
        Due.is("from now on: out of breath", x.alone(0, 0, 0, 1), 8);
        Due.is("a rest, then", x.alone(0, 0, 0, 2), 9);
        JamSongs y = Due.kitchen("j1;s0,6,1;p127,2,1;");
        Due.tune(y, 0, "000");
        Due.is("breath of 1", y.alone(0, 0, 0, 2), 0);
        Due.is("breath of 1 in the third", y.alone(0, 0, 0, 3), 1);
    }

    private static void rounds() {
        JamSongs x = Due.kitchen("j1;s0,6,9;s0,6,9;s0,6,9;p127,3,7;p127,5,7;p127,9,7;d0,3,0;d0,5,0;");
        Due.tune(x, 0, "012");
        Due.is("all at once: 3 bars", x.round(0, 0, 0, 3), 9);
        Due.is("one apart: 5 bars", x.round(1, 0, 0, 3), 27);
        Due.is("three apart: 9 bars", x.round(3, 0, 0, 3), 31);
        Due.is("eight apart: 19 bars", x.round(8, 0, 0, 3), 31);
        Due.is("a tune of none, 2 apart: 4 bars", x.round(2, 0, 0, 0), 8);
        Due.is("a tune of none, 0 apart", x.round(0, 0, 0, 0), 0);
        JamSongs y = Due.kitchen("j1;s0,0,9;s0,6,9;p2,1,2;p2,1,1;c3,2,3;");
        Due.tune(y, 0, "1");
        Due.is("who cannot sing rests", y.round(0, 0, 0, 1), 1);
        Due.is("16 items, 8 apart", longRound(), 1);
    }

    private static int longRound() {
        JamSongs x = Due.kitchen("j1;s0,6,9;s0,6,9;s0,6,9;d0,16,0;d0,20,4;");
        Due.tune(x, 0, "7777777777777777");
        int all = x.round(8, 0, 0, 16);
        return all == 3 ? 1 : 0;
    }

    private static void roundsOfFew() {
        JamSongs x = Due.kitchen("j1;d0,3,0;d0,4,0;");
        Due.tune(x, 0, "012");
        Due.is("without singers 3 bars", x.round(8, 0, 0, 3), 1);
        Due.is("without singers none", x.round(8, 0, 0, 0), 0);
        Due.is("best without singers", x.bestRound(0, 0, 3, 0), 0);
        Due.is("most without singers", x.bestRound(0, 0, 3, 1), 1);
        JamSongs y = Due.kitchen("j1;s0,6,9;d0,3,0;d0,4,0;");
        Due.tune(y, 0, "012");
        Due.is("one singer: 3 bars", y.round(8, 0, 0, 3), 1);
    }

    private static void bestRounds() {
        JamSongs x = Due.kitchen("j1;s0,6,9;s0,6,9;d0,5,0;d0,7,0;p1,2,3;");
        Due.tune(x, 0, "00");
        Due.is("least of the best", x.bestRound(0, 0, 2, 0), 5);
        Due.is("how many", x.bestRound(0, 0, 2, 1), 3);
        JamSongs y = Due.kitchen("j1;s0,6,9;s0,6,9;p1,2,1;");
        Due.tune(y, 0, "00");
        Due.is("all the same: 0", y.bestRound(0, 0, 2, 0), 0);
        Due.is("one", y.bestRound(0, 0, 2, 1), 1);
        JamSongs z = Due.kitchen("j1;s0,6,9;s0,6,9;d0,8,0;");
        z.row(0, 0, 0);
        Due.is("8 apart", z.bestRound(0, 0, 0, 0), 8);
    }

    private static void song(JamSongs x, int singer, int n, int most, String notes) {
        Due.is("song of " + n, x.song(singer, n, -1), most);
        for (int k = 0; k < n; k++) {
            Due.is("song of " + n + ", " + k, x.song(singer, n, k), notes.charAt(k) - '0');
        }
    }

    private static void songs() {
        JamSongs x = Due.kitchen("j1;s1,5,2;p22,2,1;q127,2,1;d0,2,1;c32,1,0;");
        song(x, 0, 0, 0, "");
        song(x, 0, 1, 0, "7");
        song(x, 0, 2, 1, "77");
        song(x, 0, 3, 1, "777");
        song(x, 0, 4, 2, "1177");
        JamSongs y = Due.kitchen("j1;s0,6,3;q127,2,1;p20,3,1;");
        song(y, 0, 3, 2, "242");
        song(y, 0, 4, 2, "2427");
        JamSongs z = Due.kitchen("j1;s3,3,2;s0,6,9;p8,3,1;p1,1,2;");
        song(z, 0, 4, 1, "3373");
        z.bar(3, 7, 7);
        song(z, 0, 2, 0, "77");
        z.bar(3, 7, 7);
        song(z, 0, 1, 0, "7");
        song(z, 0, 2, 1, "73");
        song(z, 1, 4, 1, "0777");
        JamSongs v = Due.kitchen("j1;s0,6,9;s0,6,9;s0,6,9;p1,2,7;d0,2,6;");
        song(v, 1, 2, 1, "77");
        song(v, 0, 2, 2, "00");
        JamSongs w = Due.kitchen("j9;s0,6,9;p64,3,1;p127,4,1;");
        song(w, 0, 4, 2, "0666");
        song(w, 0, 3, 1, "666");
    }

    private static void shut() {
        JamSongs x = Due.kitchen("j1;s0,0,9;s1,1,9;s0,6,9;p1,2,7;p1,2,6;p1,2,5;m1,1,7;d1,2,7;");
        Due.tune(x, 0, "01");
        Due.tune(x, 1, "00");
        Due.tune(x, 2, "11");
        Due.is("nothing to shut", x.toShut(0, 0, 1, 0, 2, 0), 0);
        Due.is("no windows", x.toShut(0, 0, 1, 0, 2, 1), 0);
        Due.is("never", x.toShut(0, 0, 2, 0, 2, 0), NONE);
        Due.is("never, which", x.toShut(0, 0, 2, 0, 2, 1), NONE);
        Due.is("a marrow never", x.toShut(3, 0, 1, 0, 2, 0), NONE);
        Due.is("damsons: all three", x.toShut(4, 8, 0, 0, 0, 0), 0);
        Due.is("damsons: which", x.toShut(4, 0, 0, 0, 2, 1), 7);
        Due.is("damsons: how many", x.toShut(4, 0, 0, 0, 2, 0), 3);
        JamSongs y = Due.kitchen("j1;s0,0,9;s1,1,9;s1,1,9;p1,2,7;p1,2,3;d1,3,6;d1,4,7;");
        Due.tune(y, 0, "0101");
        Due.is("two", y.toShut(0, 0, 0, 0, 4, 0), 2);
        Due.is("1 and 2", y.toShut(0, 0, 0, 0, 4, 1), 6);
        Due.is("one", y.toShut(1, 0, 0, 0, 4, 0), 1);
        Due.is("singer 1", y.toShut(1, 0, 0, 0, 4, 1), 2);
        Due.is("of those that it hears", y.toShut(2, 0, 0, 0, 4, 1), 6);
        Due.is("all", y.toShut(3, 0, 0, 0, 4, 1), 7);
        JamSongs z = Due.kitchen("j1;s0,6,9;s0,6,9;d0,2,3;d0,3,3;d0,5,3;");
        Due.tune(z, 0, "00");
        Due.is("one of two", z.toShut(0, 2, 0, 0, 2, 0), 1);
        Due.is("the least of several", z.toShut(0, 2, 0, 0, 2, 1), 1);
        Due.is("both", z.toShut(1, 2, 0, 0, 2, 1), 3);
        Due.is("four bars are too few", z.toShut(2, 2, 0, 0, 2, 1), NONE);
        z.bar(7, 7, 7);
        z.bar(7, 7, 7);
        Due.is("one that is set", z.toShut(0, 2, 0, 0, 2, 0), 0);
        Due.is("two that are not", z.toShut(1, 2, 0, 0, 2, 1), 1);
    }

    private static void modes() {
        JamSongs x = Due.kitchen("j1;s0,6,9;p0,3,1;c0,3,1;q0,3,1;m0,3,1;d0,2,0;");
        Due.tune(x, 0, "0135");
        Due.is("by 0 1 3, or by 1 3 5 and not 0", x.modes(0, 0, 0, 0, 4, 3, 0), 16 + 8);
        Due.is("0 1 3 is the least", x.modes(0, 0, 0, 0, 4, 3, 1), 11);
        Due.is("so thick never", x.modes(0, 0, 0, 0, 4, 4, 0), 0);
        Due.is("so thick never, the least", x.modes(0, 0, 0, 0, 4, 4, 1), NONE);
        Due.is("none of a tune of none", x.modes(0, 0, 0, 0, 0, 0, 0), 128);
        Due.is("least of all", x.modes(0, 0, 0, 0, 0, 0, 1), 0);
        Due.is("cherries: 2", x.modes(1, 0, 0, 0, 4, 2, 1), 40);
        Due.is("quinces: 2 by 1 3 5", x.modes(2, 0, 0, 0, 4, 2, 1), 40);
        Due.is("quinces: how many", x.modes(2, 0, 0, 0, 4, 2, 0), 32);
        Due.is("a marrow: 0", x.modes(3, 0, 0, 0, 4, 0, 0), 128);
        Due.is("a marrow: 1", x.modes(3, 0, 0, 0, 4, 1, 0), 0);
        Due.is("damsons that hear none", x.modes(4, 0, 0, 0, 4, 2, 0), 128);
        x.bar(7, 7, 7);
        x.bar(7, 7, 7);
        Due.is("what is set stays", x.modes(4, 0, 0, 0, 4, 2, 1), 0);
        JamSongs y = Due.kitchen("j1;s0,6,9;p1,2,1;");
        Due.tune(y, 0, "5");
        y.bar(0, 7, 7);
        y.bar(0, 7, 7);
        Due.is("set, by every mode", y.modes(0, 0, 0, 0, 1, 2, 0), 128);
        Due.is("20 is a thickness", y.modes(0, 0, 0, 0, 1, 20, 0), 0);
    }

    private static void fraction(JamSongs x, int pan, int n, int c, int above, int below) {
        Due.is("coughs above " + pan + n + c, x.coughs(pan, 0, 0, 0, n, c, 0), above);
        Due.is("coughs below " + pan + n + c, x.coughs(pan, 0, 0, 0, n, c, 1), below);
    }

    private static void coughs() {
        JamSongs x = Due.kitchen("j1;s0,6,9;p1,1,1;p1,2,1;d1,2,1;m0,1,0;");
        Due.tune(x, 0, "00000000");
        fraction(x, 0, 0, 5, 0, 1);
        fraction(x, 0, 1, 5, 1, 2);
        fraction(x, 0, 1, 0, 1, 1);
        fraction(x, 0, 1, 10, 0, 1);
        fraction(x, 0, 2, 3, 91, 100);
        fraction(x, 1, 2, 3, 49, 100);
        fraction(x, 1, 3, 3, 98, 125);
        fraction(x, 2, 2, 3, 9, 100);
        fraction(x, 2, 8, 10, 1, 1);
        fraction(x, 3, 8, 7, 0, 1);
        fraction(x, 0, 8, 9, 56953279, 100000000);
        JamSongs y = Due.kitchen("j1;s0,6,1;p1,2,1;");
        Due.tune(y, 0, "0007");
        fraction(y, 0, 3, 0, 1, 1);
        fraction(y, 0, 2, 0, 0, 1);
        fraction(y, 0, 3, 1, 81, 100);
        fraction(y, 0, 4, 1, 81, 100);
        y.bar(0, 7, 7);
        y.bar(7, 7, 7);
        y.bar(0, 7, 7);
        fraction(y, 0, 1, 10, 1, 1);
    }

    private static void refusals() {
        JamSongs x = new JamSongs();
        Due.tune(x, 0, "0");
        Due.is("alone without a kitchen", x.alone(0, 0, 0, 1), BAD);
        Due.is("round without a kitchen", x.round(-1, 9, 0, 99), STATE);
        Due.is("bestRound without a kitchen", x.bestRound(9, 0, 99, 5), STATE);
        Due.is("song without a kitchen", x.song(0, 0, -1), BAD);
        Due.is("toShut without a kitchen", x.toShut(0, 0, 0, 0, 0, 0), BAD);
        Due.is("modes without a kitchen", x.modes(0, 0, 0, 0, 0, 0, 0), BAD);
        Due.is("coughs without a kitchen", x.coughs(0, 0, 0, 0, 0, 0, 0), BAD);
        Due.read(x, "j1;s0,6,9;p1,1,1;");
        x.row(0, 0, 20);
        x.set(0, 19, 8);
        x.set(0, 18, -1);
        int[] bad = {-1, Integer.MIN_VALUE, Integer.MAX_VALUE};
        for (int b : bad) {
            numbersThatAreBad(x, b);
        }
        numbersBeyond(x);
        for (int call = 0; call < 6; call++) {
            Due.is("BAD ahead of NULL " + call, call(x, call, 1, 0, 17), BAD);
            Due.is("NULL " + call, call(x, call, 1, -1, 1), NULL);
            Due.is("PLACE below " + call, call(x, call, 0, -1, 1), PLACE);
            Due.is("PLACE beyond " + call, call(x, call, 0, 13, 8), PLACE);
            Due.is("PLACE far beyond " + call, call(x, call, 0, Integer.MAX_VALUE, 8), PLACE);
            Due.is("PLACE of none " + call, call(x, call, 0, 21, 0), PLACE);
            Due.is("the end, of none " + call, call(x, call, 0, 20, 0), call(x, call, 0, 0, 0));
            Due.is("an item 8 " + call, call(x, call, 0, 19, 1), BAD);
            Due.is("an item -1 " + call, call(x, call, 0, 18, 1), BAD);
            Due.is("an item beyond those " + call, call(x, call, 0, 10, 8), call(x, call, 0, 9, 8));
        }
    }

    private static int call(JamSongs x, int call, int row, int i, int n) {
        switch (call) {
            case 0: return x.alone(0, row, i, n);
            case 1: return x.round(0, row, i, n);
            case 2: return x.bestRound(row, i, n, 0);
            case 3: return x.toShut(0, 0, row, i, n, 0);
            case 4: return x.modes(0, 0, row, i, n, 0, 0);
            default: return x.coughs(0, 0, row, i, n, 0, 0);
        }
    }

    private static void numbersThatAreBad(JamSongs x, int b) {
        int[] got = {
            x.alone(b, 0, 0, 1), x.alone(0, b, 0, 1), x.alone(0, 0, 0, b),
            x.round(b, 0, 0, 1), x.round(0, b, 0, 1), x.round(0, 0, 0, b),
            x.bestRound(b, 0, 1, 0), x.bestRound(0, 0, b, 0), x.bestRound(0, 0, 1, b),
            x.song(b, 1, 0), x.song(0, b, 0), x.song(0, 4, b == -1 ? -2 : b),
            x.toShut(b, 0, 0, 0, 1, 0), x.toShut(0, b, 0, 0, 1, 0), x.toShut(0, 0, b, 0, 1, 0),
            x.toShut(0, 0, 0, 0, b, 0), x.toShut(0, 0, 0, 0, 1, b),
            x.modes(b, 0, 0, 0, 1, 0, 0), x.modes(0, b, 0, 0, 1, 0, 0), x.modes(0, 0, b, 0, 1, 0, 0),
            x.modes(0, 0, 0, 0, b, 0, 0), x.modes(0, 0, 0, 0, 1, b, 0), x.modes(0, 0, 0, 0, 1, 0, b),
            x.coughs(b, 0, 0, 0, 1, 0, 0), x.coughs(0, b, 0, 0, 1, 0, 0), x.coughs(0, 0, b, 0, 1, 0, 0),
            x.coughs(0, 0, 0, 0, b, 0, 0), x.coughs(0, 0, 0, 0, 1, b, 0), x.coughs(0, 0, 0, 0, 1, 0, b),
        };
        for (int i = 0; i < got.length; i++) {
            Due.is("number " + b + ", call " + i, got[i], BAD);
        }
    }

    private static void numbersBeyond(JamSongs x) {
        int[] got = {
            x.alone(1, 0, 0, 1), x.alone(0, 8, 0, 1), x.alone(0, 0, 0, 17),
            x.round(9, 0, 0, 1), x.round(0, 8, 0, 1), x.round(0, 0, 0, 17),
            x.bestRound(8, 0, 1, 0), x.bestRound(0, 0, 17, 0), x.bestRound(0, 0, 1, 2),
            x.song(1, 1, 0), x.song(0, 5, 0), x.song(0, 3, 3), x.song(0, 0, 0),
            x.toShut(1, 0, 0, 0, 1, 0), x.toShut(0, 9, 0, 0, 1, 0), x.toShut(0, 0, 8, 0, 1, 0),
            x.toShut(0, 0, 0, 0, 17, 0), x.toShut(0, 0, 0, 0, 1, 2),
            x.modes(1, 0, 0, 0, 1, 0, 0), x.modes(0, 1, 0, 0, 1, 0, 0), x.modes(0, 0, 8, 0, 1, 0, 0),
            x.modes(0, 0, 0, 0, 17, 0, 0), x.modes(0, 0, 0, 0, 1, 21, 0), x.modes(0, 0, 0, 0, 1, 0, 2),
            x.coughs(1, 0, 0, 0, 1, 0, 0), x.coughs(0, 1, 0, 0, 1, 0, 0), x.coughs(0, 0, 8, 0, 1, 0, 0),
            x.coughs(0, 0, 0, 0, 9, 0, 0), x.coughs(0, 0, 0, 0, 1, 11, 0), x.coughs(0, 0, 0, 0, 1, 0, 2),
        };
        for (int i = 0; i < got.length; i++) {
            Due.is("beyond, call " + i, got[i], BAD);
        }
        Due.is("16 alone", x.alone(0, 0, 0, 16), 1);
        Due.is("16 as a round", x.round(0, 0, 0, 16), 1);
        Due.is("16 as the best round", x.bestRound(0, 0, 16, 1), 1);
        Due.is("16 with windows shut", x.toShut(0, 0, 0, 0, 16, 0), 0);
        Due.is("16 by modes", x.modes(0, 0, 0, 0, 16, 1, 0), 64);
        Due.is("8 apart", x.round(8, 0, 0, 1), 1);
        Due.is("coughs of 8 bars by 10", x.coughs(0, 0, 0, 0, 8, 10, 1), 1);
    }

    private static void nothingChanges() {
        JamSongs x = Due.kitchen("j1;s0,6,3;s0,6,2;p3,4,3;q7,3,1;d1,9,2;");
        Due.tune(x, 0, "02010");
        x.bar(0, 1, 7);
        x.bar(2, 7, 7);
        String before = all(x);
        for (int call = 0; call < 6; call++) {
            call(x, call, 0, 0, 5);
            call(x, call, 0, 0, 6);
        }
        x.song(0, 4, -1);
        Due.is("nothing changes: " + before + " " + all(x), before.equals(all(x)) ? 1 : 0, 1);
        Due.is("undo after it", x.undo(), 1);
        Due.is("heard", x.pan(1, 5), 0);
    }

    private static String all(JamSongs x) {
        StringBuilder told = new StringBuilder();
        for (int p = 0; p < 3; p++) {
            for (int what = 0; what < 6; what++) {
                told.append(x.pan(p, what)).append(' ');
            }
        }
        for (int what = 0; what < 4; what++) {
            told.append(x.singer(0, what)).append(' ').append(x.singer(1, what)).append(' ');
        }
        for (int what = 0; what < 8; what++) {
            told.append(x.count(what)).append(' ');
        }
        return told.toString();
    }
}
