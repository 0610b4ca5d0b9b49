/** The edges of promises 14 to 16, and of what 'Terms' says of TUNES, ALONE, ROUND, BEST ROUND. */
final class EdgesOfForetold {
    private static final int BAD = JamSongs.BAD, STATE = JamSongs.STATE;
    private static final int NULL = -1000011, PLACE = -1000012;
    private static final int MIN = Integer.MIN_VALUE, MAX = Integer.MAX_VALUE;
    private static final String TERMS = "Terms", SINGER = "s0,6,9;", TWO = SINGER + SINGER, THREE = TWO + SINGER;

    private EdgesOfForetold() { }

    /** A call with a TUNE; all else that it is given is as told. */
    interface OfTune {
        int of(JamSongs x, int row, int i, int n);
    }

    static void all() {
        nothingChanges();
        fromThisBarOn();
        tunesAreOfNotesAndRests();
        whoCannotRests();
        aloneOthersRest();
        roundsBeginLater();
        roundsLast();
        roundsOfLongTunes();
        roundsOfNone();
        roundsWithoutSingers();
        bestIsTheMost();
        bestIsTheLeast();
        aloneTakes();
        aloneRefuses();
        aloneRefusesTunes();
        roundTakes();
        roundRefuses();
        roundRefusesTunes();
        bestRoundTakes();
        bestRoundRefuses();
        bestRoundRefusesTunes();
    }

    private static JamSongs rests(int most) {
        JamSongs x = Due.kitchen("j1;" + SINGER + "p127,20,1;");
        Due.tune(x, 0, "7".repeat(40));
        x.row(7, 2, most);
        for (int i = 0; i < most; i++) {
            x.set(7, i, 7);
        }
        return x;
    }

    /** By a TUNE of rests that is taken the answer is the one that is due. */
    static void rowsOfTune(String name, int most, int due, OfTune c) {
        JamSongs x = rests(most);
        Due.is(name + " ROW -1", c.of(x, -1, 0, 1), BAD);
        Due.is(name + " ROW 0", c.of(x, 0, 0, 1), due);
        Due.is(name + " ROW 7", c.of(x, 7, 0, 1), due);
        Due.is(name + " ROW 8", c.of(x, 8, 0, 1), BAD);
        Due.is(name + " n -1", c.of(x, 0, 0, -1), BAD);
        Due.is(name + " n 0", c.of(x, 0, 0, 0), due);
        Due.is(name + " n " + most, c.of(x, 0, 0, most), due);
        Due.is(name + " n " + (most + 1), c.of(x, 0, 0, most + 1), BAD);
        Due.is(name + " the most n", c.of(x, 0, 0, MAX), BAD);
        Due.is(name + " the least n", c.of(x, 0, 0, MIN), BAD);
        Due.is(name + " a missing ROW", c.of(x, 1, 0, 1), NULL);
        Due.is(name + " status() by a missing ROW", x.status(), 1);
        Due.is(name + " none of a missing ROW", c.of(x, 1, 0, 0), NULL);
        Due.is(name + " NULL ahead of PLACE", c.of(x, 1, -1, 1), NULL);
        Due.is(name + " BAD ahead of NULL", c.of(x, 1, 0, most + 1), BAD);
        Due.is(name + " BAD ahead of PLACE", c.of(x, 0, 40, -1), BAD);
    }

    static void placesOfTune(String name, int most, int due, OfTune c) {
        JamSongs x = rests(most);
        int[][] beyond = {{-1, 1}, {-1, 0}, {40, 1}, {41, 0}, {39, 2}, {41 - most, most}, {MAX, 1}, {MAX, most},
            {MAX - 1, 2}, {MIN, 0}, {MIN, 1}, {MIN, most}};
        for (int[] b : beyond) {
            Due.is(name + " " + b[1] + " from " + b[0] + " on", c.of(x, 0, b[0], b[1]), PLACE);
            Due.is(name + " status() by it", x.status(), 2);
        }
        int[][] within = {{0, 1}, {39, 1}, {38, 2}, {40 - most, most}, {40, 0}, {0, 0}};
        for (int[] w : within) {
            Due.is(name + " " + w[1] + " from " + w[0] + " on", c.of(x, 0, w[0], w[1]), due);
            Due.is(name + " status() by it", x.status(), 0);
        }
        Due.is(name + " all of a ROW", c.of(x, 7, 0, most), due);
        Due.is(name + " as many from 1 on", c.of(x, 7, 1, most), PLACE);
        x.row(6, 0, 0);
        Due.is(name + " none of a ROW of none", c.of(x, 6, 0, 0), due);
        Due.is(name + " one of a ROW of none", c.of(x, 6, 0, 1), PLACE);
    }

    static void itemsOfTune(String name, int most, int due, OfTune c) {
        JamSongs x = rests(most);
        x.row(2, 2, 40);
        Due.is("no ROW 3", x.drop(3), NULL);
        int[] bad = {-1, 8, 9, 127, -128};
        for (int v : bad) {
            x.set(0, 20, v);
            Due.is("no ROW 3", x.drop(3), NULL);
            Due.is(name + " ITEM " + v, c.of(x, 0, 20, 1), BAD);
            Due.is(name + " ITEM " + v + " is the last", c.of(x, 0, 21 - most, most), BAD);
            Due.is(name + " ITEM " + v + " is the first", c.of(x, 0, 20, most), BAD);
            Due.is(name + " status() by it", x.status(), 1);
            Due.is(name + " ITEM " + v + " ahead of the TUNE", c.of(x, 0, 21, most), due);
            Due.is(name + " ITEM " + v + " behind the TUNE", c.of(x, 0, 20 - most, most), due);
            Due.is(name + " ITEM " + v + " in a TUNE of none", c.of(x, 0, 20, 0), due);
        }
        for (int v = 0; v <= 7; v++) {
            x.set(0, 20, v);
            Due.is(name + " ITEM " + v + " is refused", c.of(x, 0, 20, 1) == BAD ? 1 : 0, 0);
        }
        x.set(0, 20, 256 + 7);
        Due.is(name + " ITEM 7, cut", c.of(x, 0, 20, 1), due);
        x.set(2, 0, 256 + 7);
        Due.is(name + " ITEM 263", c.of(x, 2, 0, 1), BAD);
        x.set(2, 0, MIN);
        Due.is(name + " the least ITEM", c.of(x, 2, 0, 1), BAD);
        x.set(0, 38, 8);
        Due.is(name + " PLACE ahead of BAD", c.of(x, 0, 38, 3), PLACE);
    }

    private static void nothingChanges() {
        Due.says(TERMS, "3 FORETOLD (nothing changes;");
        Twins.changesNothing("alone(0, 0, 0, 8)", true, x -> x.alone(0, 0, 0, 8));
        Twins.changesNothing("round(2, 0, 0, 8)", true, x -> x.round(2, 0, 0, 8));
        Twins.changesNothing("bestRound(0, 0, 8, 0)", true, x -> x.bestRound(0, 0, 8, 0));
        Twins.changesNothing("song(0, 4, -1)", false, x -> x.song(0, 4, -1));
        Twins.changesNothing("song(1, 4, 3)", false, x -> x.song(1, 4, 3));
        Twins.changesNothing("toShut(1, 2, 0, 0, 8, 1)", true, x -> x.toShut(1, 2, 0, 0, 8, 1));
        Twins.changesNothing("modes(1, 0, 0, 0, 8, 3, 1)", true, x -> x.modes(1, 0, 0, 0, 8, 3, 1));
        Twins.changesNothing("coughs(2, 0, 0, 0, 8, 3, 0)", true, x -> x.coughs(2, 0, 0, 0, 8, 3, 0));
    }

    private static void fromThisBarOn() {
        Due.says(TERMS, "from this BAR on, as all is now).");
        JamSongs x = Due.kitchen("j1;s0,6,2;s0,6,9;p1,3,1;q127,2,1;p2,1,2;");
        Due.tune(x, 0, "0200");
        Due.is("ahead of all", x.alone(0, 0, 0, 4), 0);
        x.bar(0, 7, 7);
        x.bar(0, 7, 7);
        Due.is("it has no breath now", x.alone(0, 0, 0, 1), 0);
        Due.is("it has by then", x.alone(0, 0, 2, 2), 1);
        x.bar(7, 7, 7);
        Due.is("it has now", x.alone(0, 0, 0, 1), 1);
        x.bar(2, 7, 7);
        Due.is("quinces heard 2, plums are 1 less", x.alone(0, 0, 0, 1), 0);
        x.bar(0, 7, 7);
        x.window(2, 0, 1);
        x.bar(7, 7, 7);
        Due.tune(x, 1, "1");
        Due.is("by a window that is open now", x.alone(0, 1, 0, 1), 4);
        x.undo();
        x.undo();
        x.bar(7, 7, 7);
        Due.is("by a window that is shut again", x.alone(0, 1, 0, 1), 0);
    }

    private static void tunesAreOfNotesAndRests() {
        Due.says(TERMS, "A TUNE: a row of NOTES and rests, each in one BAR;");
        JamSongs x = Due.kitchen("j1;" + SINGER + "p1,1,1;p64,1,1;d0,3,0;d0,4,0;d0,5,1;");
        Due.tune(x, 0, "77777");
        Due.is("three rests", x.alone(0, 0, 0, 3), 4);
        Due.is("four rests", x.alone(0, 0, 0, 4), 12);
        Due.is("five rests", x.alone(0, 0, 0, 5), 28);
        Due.tune(x, 1, "07776");
        Due.is("NOTE 0 and 2 rests", x.alone(0, 1, 0, 3), 5);
        Due.is("NOTE 0, 3 rests, NOTE 6", x.alone(0, 1, 0, 5), 15);
    }

    private static void whoCannotRests() {
        Due.says(TERMS, "who CANNOT sing one rests in it.");
        JamSongs x = Due.kitchen("j1;s2,4,2;p4,1,1;p16,1,1;d0,1,1;p4,2,1;p4,3,1;");
        Due.tune(x, 0, "2410537");
        Due.is("LOW", x.alone(0, 0, 0, 1), 1);
        Due.is("HIGH", x.alone(0, 0, 1, 1), 2);
        Due.is("below LOW", x.alone(0, 0, 2, 1), 4);
        Due.is("above HIGH", x.alone(0, 0, 4, 1), 4);
        Due.is("a rest", x.alone(0, 0, 6, 1), 4);
        Due.tune(x, 1, "222222");
        Due.is("one", x.alone(0, 1, 0, 1), 1);
        Due.is("two", x.alone(0, 1, 0, 2), 9);
        Due.is("the third is a rest", x.alone(0, 1, 0, 3), 13);
        Due.is("the fourth is sung again", x.alone(0, 1, 0, 4), 29);
        Due.tune(x, 2, "212122");
        Due.is("a NOTE that it CANNOT sing gives breath: 2, rest, 2", x.alone(0, 2, 0, 3), 13);
        Due.is("2, rest, 2, rest, 2", x.alone(0, 2, 0, 5), 29);
    }

    private static void aloneOthersRest() {
        Due.says(TERMS, "ALONE: PANS (bits) that are SET, when one has sung a TUNE, all others resting.");
        JamSongs x = Due.kitchen("j1;" + THREE + "d0,2,1;d0,2,2;d0,2,4;p1,2,3;p1,2,6;");
        Due.tune(x, 0, "00");
        Due.is("by SINGER 0", x.alone(0, 0, 0, 2), 2 + 4 + 8);
        Due.is("by SINGER 1", x.alone(1, 0, 0, 2), 1 + 4 + 8 + 16);
        Due.is("by SINGER 2", x.alone(2, 0, 0, 2), 1 + 2 + 16);
        x.bar(7, 7, 7);
        x.bar(7, 7, 7);
        Due.is("those that are SET already, too", x.alone(0, 0, 0, 0), 7);
        Due.is("and more", x.alone(0, 0, 0, 2), 15);
    }

    private static void roundsBeginLater() {
        Due.says(TERMS, "ROUND of a TUNE, d BARS apart (0 to 8): SINGER k begins k times d BARS later,");
        // the least NOTES are 0 2; 0 0 2; 0 2 0 2; 0 2, rest, 0 2 ..
        JamSongs x = Due.kitchen("j1;" + TWO + "q127,3,3;q127,1,3;");
        Due.tune(x, 0, "02");
        int[] due = {2, 2, 3, 2, 2, 2, 2, 2, 2};
        for (int d = 0; d <= 8; d++) {
            Due.is("round(" + d + ", ..)", x.round(d, 0, 0, 2), due[d]);
        }
        // SINGER 2 begins with 0 in BAR 2d: it is the first to be heard by the last pan
        JamSongs y = Due.kitchen("j1;" + THREE + "d0,16,4;d0,17,4;d0,2,4;d0,15,4;p1,1,4;");
        Due.tune(y, 0, "0");
        Due.is("0 apart", y.round(0, 0, 0, 1), 16);
        Due.is("1 apart: 2 rests ahead", y.round(1, 0, 0, 1), 4 + 16);
        Due.is("7 apart: 14 rests ahead", y.round(7, 0, 0, 1), 4 + 16);
        Due.is("8 apart: 16 rests ahead", y.round(8, 0, 0, 1), 1 + 4 + 8 + 16);
    }

    private static void lasts(String singers, int d, int n, int bars) {
        String twoPans = "d0," + Math.max(bars, 1) + ",0;" + (bars > 0 && bars < 20 ? "d0," + (bars + 1) + ",0;" : "");
        JamSongs x = Due.kitchen("j1;" + singers + twoPans);
        Due.tune(x, 0, "0123456701234567");
        int many = singers.length() / SINGER.length();
        Due.is(many + " SINGERS, " + n + " NOTES, " + d + " apart: " + bars + " BARS", x.round(d, 0, 0, n), bars > 0 ? 1 : 0);
    }

    private static void roundsLast() {
        Due.says(TERMS, "all till the last one has ended");
        lasts(THREE, 0, 1, 1);
        lasts(THREE, 0, 16, 16);
        lasts(THREE, 1, 1, 3);
        lasts(THREE, 2, 15, 19);
        lasts(THREE, 2, 16, 20);
        lasts(THREE, 8, 1, 17);
        lasts(THREE, 8, 3, 19);
        lasts(THREE, 8, 4, 20);
        lasts(TWO, 8, 1, 9);
        lasts(TWO, 8, 11, 19);
        lasts(TWO, 3, 16, 19);
        lasts(SINGER, 8, 1, 1);
        lasts(SINGER, 8, 16, 16);
    }

    private static void roundsOfLongTunes() {
        Due.says(TERMS, "all till the last one has ended");
        JamSongs x = Due.kitchen("j1;" + THREE + "p1,1,1;p1,1,2;p1,1,4;p1,2,7;p1,3,7;");
        Due.tune(x, 0, "7777777777777770");
        Due.is("16, 8 apart: also the last one's last", x.round(8, 0, 0, 16), 31);
        Due.is("15, 8 apart: rests", x.round(8, 0, 0, 15), 0);
        Due.is("16, 0 apart: one BAR with NOTES", x.round(0, 0, 0, 16), 7);
        Due.is("16, 1 apart", x.round(1, 0, 0, 16), 31);
    }

    private static void roundsOfNone() {
        Due.says(TERMS, "(with a TUNE of none: till it would have begun;");
        lasts(THREE, 0, 0, 0);
        lasts(THREE, 1, 0, 2);
        lasts(THREE, 8, 0, 16);
        lasts(TWO, 8, 0, 8);
        lasts(TWO, 1, 0, 1);
        lasts(SINGER, 8, 0, 0);
    }

    private static void roundsWithoutSingers() {
        Due.says(TERMS, "without SINGERS as many BARS go by as the TUNE has, in which nobody sings): PANS that are SET then.");
        for (int d : new int[] {0, 1, 8}) {
            lasts("", d, 0, 0);
            lasts("", d, 1, 1);
            lasts("", d, 16, 16);
        }
        JamSongs x = Due.kitchen("j1;p127,1,0;d0,2,0;");
        Due.tune(x, 0, "00");
        Due.is("nobody sings", x.round(0, 0, 0, 2), 2);
        Due.is("bestRound: d", x.bestRound(0, 0, 2, 0), 0);
        Due.is("bestRound: how many", x.bestRound(0, 0, 2, 1), 1);
    }

    private static void best(String name, JamSongs x, int n, int d, int many) {
        Due.is(name + ": d", x.bestRound(0, 0, n, 0), d);
        Due.is(name + ": how many", x.bestRound(0, 0, n, 1), many);
    }

    private static void bestIsTheMost() {
        Due.says(TERMS, "BEST ROUND: the d by which most are SET,");
        JamSongs x = Due.kitchen("j1;" + TWO + "d0,8,0;");
        Due.tune(x, 0, "00");
        best("8 is the last that is tried", x, 0, 8, 1);
        JamSongs y = Due.kitchen("j1;" + TWO + "d0,9,0;");
        Due.tune(y, 0, "00");
        best("9 is not tried", y, 0, 0, 0);
        best("one BAR more", y, 1, 8, 1);
        JamSongs z = Due.kitchen("j1;" + TWO + "q127,3,3;d0,3,0;p1,1,1;");
        Due.tune(z, 0, "02");
        best("2 apart, 4 BARS", z, 2, 2, 3);
        JamSongs v = Due.kitchen("j1;" + THREE + "d0,1,0;d0,2,0;d0,3,0;d0,4,0;d0,5,0;");
        Due.tune(v, 0, "0");
        best("all five", v, 1, 2, 5);
    }

    private static void bestIsTheLeast() {
        Due.says(TERMS, "of several the least; how many.");
        JamSongs x = Due.kitchen("j1;" + TWO + "p1,1,1;d0,5,0;d0,20,0;");
        Due.tune(x, 0, "00");
        best("3 to 8", x, 2, 3, 2);
        JamSongs y = Due.kitchen("j1;" + TWO + "p1,1,1;");
        Due.tune(y, 0, "0");
        best("0 to 8", y, 1, 0, 1);
        best("0 to 8 with none", y, 0, 0, 0);
        y.bar(0, 7, 7);
        best("0 to 8, SET already", y, 0, 0, 1);
        Due.read(y, "j1;");
        best("no PANS", y, 1, 0, 0);
    }

    private static void aloneTakes() {
        Due.says("Promise 14", "ALONE by n ITEMS (0 to 16) of a ROW from i on.");
        JamSongs x = Due.kitchen("j1;" + SINGER + "p1,1,1;p4,1,1;p16,1,1;d0,16,0;d0,15,0;");
        Due.tune(x, 0, "4777777777777770" + "2");
        Due.is("16 from 0 on", x.alone(0, 0, 0, 16), 1 + 4 + 8 + 16);
        Due.is("16 from 1 on", x.alone(0, 0, 1, 16), 1 + 2 + 8 + 16);
        Due.is("15 from 1 on", x.alone(0, 0, 1, 15), 1 + 16);
        Due.is("15 from 0 on", x.alone(0, 0, 0, 15), 4 + 16);
        Due.is("14 from 1 on", x.alone(0, 0, 1, 14), 0);
        Due.is("1 from 16 on", x.alone(0, 0, 16, 1), 2);
        Due.is("0 from 16 on", x.alone(0, 0, 16, 0), 0);
        Due.is("0 from 17 on", x.alone(0, 0, 17, 0), 0);
        Due.is("0 from 18 on", x.alone(0, 0, 18, 0), PLACE);
        Due.is("17", x.alone(0, 0, 0, 17), BAD);
    }

    private static void aloneRefuses() {
        Due.says("Promise 14", "BAD: SINGER, ROW, n;");
        JamSongs x = Due.kitchen("j1;" + THREE + "p127,20,7;");
        Due.tune(x, 0, "0");
        int[] due = {BAD, 0, 0, 0, BAD};
        for (int s = -1; s <= 3; s++) {
            Due.is("SINGER " + s, x.alone(s, 0, 0, 1), due[s + 1]);
        }
        Due.is("the most", x.alone(MAX, 0, 0, 1), BAD);
        Due.is("the least", x.alone(MIN, 0, 0, 1), BAD);
        Due.is("no SINGER, no ROW", x.alone(3, 1, 0, 1), BAD);
        Due.read(x, "j1;" + SINGER);
        Due.is("SINGER 0 of 1", x.alone(0, 0, 0, 1), 0);
        Due.is("SINGER 1 of 1", x.alone(1, 0, 0, 1), BAD);
        Due.read(x, "j1;d0,1,0;");
        Due.is("SINGER 0 of none", x.alone(0, 0, 0, 1), BAD);
        JamSongs y = new JamSongs();
        Due.tune(y, 0, "0");
        Due.is("no KITCHEN", y.alone(0, 0, 0, 1), BAD);
    }

    private static void aloneRefusesTunes() {
        Due.says("Promise 14", "BAD: SINGER, ROW, n; NULL; PLACE; then BAD: an ITEM not 0 to 7.");
        OfTune c = (x, row, i, n) -> x.alone(0, row, i, n);
        rowsOfTune("alone", 16, 0, c);
        placesOfTune("alone", 16, 0, c);
        itemsOfTune("alone", 16, 0, c);
    }

    private static void roundTakes() {
        Due.says("Promise 15", "ROUND likewise, d BARS apart.");
        JamSongs x = Due.kitchen("j1;" + TWO + "p1,2,3;p4,1,3;p16,2,3;d0,8,0;d0,9,0;");
        Due.tune(x, 0, "0777777777777774" + "2");
        Due.is("16 from 0 on, 8 apart", x.round(8, 0, 0, 16), 1 + 4 + 8 + 16);
        Due.is("16 from 1 on, 8 apart", x.round(8, 0, 1, 16), 2 + 8 + 16);
        Due.is("1 from 16 on, 7 apart", x.round(7, 0, 16, 1), 2 + 8);
        Due.is("1 from 16 on, 8 apart", x.round(8, 0, 16, 1), 2 + 8 + 16);
        Due.is("1 from 16 on, 0 apart", x.round(0, 0, 16, 1), 2);
        Due.is("0 from 17 on, 8 apart", x.round(8, 0, 17, 0), 8);
    }

    private static void roundRefuses() {
        Due.says("Promise 15", "BAD: d, ROW, n; STATE: no KITCHEN (ahead of BAD);");
        JamSongs x = new JamSongs();
        Due.tune(x, 0, "0");
        int[] ds = {-1, 0, 8, 9, MAX, MIN};
        for (int d : ds) {
            Due.is("no KITCHEN, d " + d, x.round(d, 0, 0, 1), STATE);
        }
        Due.is("no KITCHEN, no ROW", x.round(0, 8, 0, 1), STATE);
        Due.is("no KITCHEN, n 17", x.round(0, 0, 0, 17), STATE);
        Due.is("status() by STATE", x.status(), 0);
        Due.read(x, "j1;" + THREE + "p127,20,7;");
        for (int d : ds) {
            Due.is("d " + d, x.round(d, 0, 0, 1), d >= 0 && d <= 8 ? 0 : BAD);
        }
        Due.is("d 9 of a missing ROW", x.round(9, 1, 0, 1), BAD);
    }

    private static void roundRefusesTunes() {
        Due.says("Promise 15", "NULL; PLACE; then BAD: an ITEM.");
        for (int d : new int[] {0, 8}) {
            OfTune c = (x, row, i, n) -> x.round(d, row, i, n);
            rowsOfTune("round", 16, 0, c);
            placesOfTune("round", 16, 0, c);
            itemsOfTune("round", 16, 0, c);
        }
    }

    private static void bestRoundTakes() {
        Due.says("Promise 16", "BEST ROUND likewise: d (what = 0), how many (1).");
        JamSongs x = Due.kitchen("j1;" + TWO + "d0,20,0;d0,19,0;d0,1,0;");
        Due.tune(x, 0, "0".repeat(16));
        Due.is("16: d", x.bestRound(0, 0, 16, 0), 4);
        Due.is("16: how many", x.bestRound(0, 0, 16, 1), 3);
        Due.is("12: d", x.bestRound(0, 4, 12, 0), 8);
        Due.is("12: how many", x.bestRound(0, 4, 12, 1), 3);
        Due.is("11: d", x.bestRound(0, 5, 11, 0), 8);
        Due.is("11: how many", x.bestRound(0, 5, 11, 1), 2);
        Due.is("10: d", x.bestRound(0, 6, 10, 0), 0);
        Due.is("10: how many", x.bestRound(0, 6, 10, 1), 1);
        Due.is("none: d", x.bestRound(0, 16, 0, 0), 1);
        Due.is("none: how many", x.bestRound(0, 16, 0, 1), 1);
    }

    private static void bestRoundRefuses() {
        Due.says("Promise 16", "BAD: ROW, n, what; STATE: no KITCHEN (ahead of BAD);");
        JamSongs x = new JamSongs();
        Due.tune(x, 0, "7");
        Due.is("no KITCHEN", x.bestRound(0, 0, 1, 0), STATE);
        Due.is("no KITCHEN, no ROW", x.bestRound(8, 0, 1, 0), STATE);
        Due.is("no KITCHEN, n 17", x.bestRound(0, 0, 17, 0), STATE);
        Due.is("no KITCHEN, what 2", x.bestRound(0, 0, 1, 2), STATE);
        Due.read(x, "j1;" + THREE + "d0,1,0;");
        int[] due = {BAD, 0, 1, BAD};
        for (int what = -1; what <= 2; what++) {
            Due.is("what " + what, x.bestRound(0, 0, 1, what), due[what + 1]);
        }
        Due.is("the most", x.bestRound(0, 0, 1, MAX), BAD);
        Due.is("the least", x.bestRound(0, 0, 1, MIN), BAD);
        Due.is("what 2 of a missing ROW", x.bestRound(1, 0, 1, 2), BAD);
    }

    private static void bestRoundRefusesTunes() {
        Due.says("Promise 16", "NULL; PLACE; then BAD: an ITEM.");
        for (int what : new int[] {0, 1}) {
            OfTune c = (x, row, i, n) -> x.bestRound(row, i, n, what);
            rowsOfTune("bestRound", 16, 0, c);
            placesOfTune("bestRound", 16, 0, c);
            itemsOfTune("bestRound", 16, 0, c);
        }
    }
}
