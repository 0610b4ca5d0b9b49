/** The edges of promises 17 to 20, and of what 'Terms' says of SONG, SHUT, MODES, COUGHS. */
final class EdgesOfSearches {
    private static final int BAD = JamSongs.BAD, NONE = JamSongs.NONE;
    private static final int MIN = Integer.MIN_VALUE, MAX = Integer.MAX_VALUE;
    private static final String TERMS = "Terms", SINGER = "s0,6,9;", TWO = SINGER + SINGER, THREE = TWO + SINGER;

    private EdgesOfSearches() { }

    static void all() {
        songsOfFewBars();
        songsByMostPans();
        songsOfFewestNotes();
        songsThatAreFirst();
        songsThatItCanSing();
        fewestWindows();
        leastWindows();
        windowsThatItHears();
        noWindows();
        modesAreCounted();
        modesAllElseBeing();
        modesOfNone();
        coughsByTen();
        coughsEachByItself();
        songTakes();
        songRefuses();
        toShutTakes();
        toShutRefuses();
        toShutRefusesTunes();
        modesTakes();
        modesRefuses();
        modesRefusesTunes();
        coughsTakes();
        coughsRefuses();
        coughsRefusesTunes();
    }

    private static void song(JamSongs x, int singer, int most, String notes) {
        int n = notes.length();
        Due.is("song(" + singer + ", " + n + ", -1)", x.song(singer, n, -1), most);
        for (int k = 0; k < n; k++) {
            Due.is("song(" + singer + ", " + n + ", " + k + ")", x.song(singer, n, k), notes.charAt(k) - '0');
        }
        Due.is("song(" + singer + ", " + n + ", " + n + ")", x.song(singer, n, n), BAD);
    }

    private static void songsOfFewBars() {
        Due.says(TERMS, "SONG of n BARS (0 to 4) by one, all others resting:");
        JamSongs x = Due.kitchen("j1;" + TWO + "p2,1,1;p2,2,1;p2,3,1;p2,4,1;d0,4,2;");
        song(x, 0, 0, "");
        song(x, 0, 1, "1");
        song(x, 0, 2, "11");
        song(x, 0, 3, "111");
        song(x, 0, 5, "1111");
        song(x, 1, 0, "7");
        song(x, 1, 1, "7777");
        Due.is("song(0, 5, -1)", x.song(0, 5, -1), BAD);
    }

    private static void songsByMostPans() {
        Due.says(TERMS, "of all it CAN sing that by which most PANS are SET then,");
        JamSongs x = Due.kitchen("j1;" + SINGER + "p64,1,1;c64,1,1;q127,1,1;d0,1,1;p1,1,1;");
        song(x, 0, 0, "");
        song(x, 0, 2, "6");
        song(x, 0, 3, "67");
        song(x, 0, 4, "067");
        song(x, 0, 5, "0267");
        JamSongs y = Due.kitchen("j1;" + SINGER + "m127,1,1;");
        song(y, 0, 0, "7777");
        y.bar(7, 7, 7);
        song(y, 0, 0, "777");
        JamSongs z = Due.kitchen("j1;" + SINGER + "d0,1,0;p1,1,1;");
        z.bar(0, 7, 7);
        song(z, 0, 2, "");
        song(z, 0, 2, "7");
        Due.read(z, "j1;" + SINGER);
        song(z, 0, 0, "7777");
    }

    private static void songsOfFewestNotes() {
        Due.says(TERMS, "of several the one of fewest NOTES,");
        JamSongs x = Due.kitchen("j1;" + SINGER + "d0,2,1;");
        song(x, 0, 0, "7");
        song(x, 0, 1, "77");
        song(x, 0, 1, "777");
        song(x, 0, 1, "7777");
        JamSongs y = Due.kitchen("j9;" + SINGER + "p127,3,1;");
        song(y, 0, 0, "77");
        song(y, 0, 1, "000");
        song(y, 0, 1, "0007");
        JamSongs z = Due.kitchen("j9;" + SINGER + "q127,2,1;");
        song(z, 0, 1, "020");
        song(z, 0, 1, "0207");
    }

    private static void songsThatAreFirst() {
        Due.says(TERMS, "then the first (by BARS, NOTES 0 to 6, then the rest): how many; the k-th;");
        JamSongs x = Due.kitchen("j1;" + SINGER + "p72,1,1;");
        song(x, 0, 1, "3");
        song(x, 0, 1, "37");
        song(x, 0, 1, "3777");
        JamSongs y = Due.kitchen("j1;" + SINGER + "p64,1,1;");
        song(y, 0, 1, "6");
        song(y, 0, 1, "6777");
        JamSongs z = Due.kitchen("j1;" + SINGER + "d0,2,1;p1,1,1;");
        song(z, 0, 2, "077");
        song(z, 0, 2, "0777");
        JamSongs v = Due.kitchen("j9;" + SINGER + "q127,1,1;");
        song(v, 0, 1, "02");
        song(v, 0, 1, "027");
        song(v, 0, 1, "0277");
        JamSongs w = Due.kitchen("j9;s1,5,9;q127,1,1;");
        song(w, 0, 1, "13");
    }

    private static void songsThatItCanSing() {
        Due.says(TERMS, "as one who CANNOT sing one rests, only rows are tried in which it CAN sing each.");
        JamSongs x = Due.kitchen("j1;s2,4,1;p12,2,1;p1,1,1;p32,1,1;");
        song(x, 0, 0, "7");
        song(x, 0, 0, "77");
        song(x, 0, 1, "272");
        song(x, 0, 1, "2727");
        x.bar(2, 7, 7);
        song(x, 0, 0, "7");
        song(x, 0, 1, "72");
        song(x, 0, 1, "727");
        x.bar(7, 7, 7);
        song(x, 0, 1, "2");
        song(x, 0, 1, "2777");
        JamSongs y = Due.kitchen("j1;s6,6,3;p64,4,1;");
        song(y, 0, 0, "7777");
        y.bar(6, 7, 7);
        song(y, 0, 0, "777");
        song(y, 0, 1, "6676");
        JamSongs z = Due.kitchen("j1;s0,6,1;p127,2,1;");
        song(z, 0, 1, "0707");
    }

    private static void shut(String name, JamSongs x, int pan, int d, int n, int many, int which) {
        Due.is(name + ": how many", x.toShut(pan, d, 0, 0, n, 0), many);
        Due.is(name + ": which", x.toShut(pan, d, 0, 0, n, 1), which);
    }

    /** SINGERS 0, 1, 2 sing in the BARS 0 1, 2 3, 4 5. */
    private static JamSongs threeInTurn(String pans) {
        JamSongs x = Due.kitchen("j1;" + THREE + pans);
        Due.tune(x, 0, "00");
        return x;
    }

    private static void fewestWindows() {
        Due.says(TERMS, "SHUT: the fewest windows of a PAN");
        Due.says(TERMS, "to be shut, so that it is SET when a TUNE was sung as a ROUND: how many;");
        JamSongs x = threeInTurn("d0,1,7;d0,2,7;d0,3,7;d0,4,7;d0,5,7;");
        shut("NEEDS 1", x, 0, 2, 2, 1, 1);
        shut("NEEDS 2", x, 1, 2, 2, 1, 1);
        shut("NEEDS 3", x, 2, 2, 2, 2, 3);
        shut("NEEDS 4", x, 3, 2, 2, 2, 3);
        shut("NEEDS 5", x, 4, 2, 2, 3, 7);
        JamSongs y = threeInTurn("d0,6,7;d0,7,7;p1,6,7;p1,7,7;c1,6,7;");
        shut("NEEDS 6", y, 0, 2, 2, 3, 7);
        shut("NEEDS 7", y, 1, 2, 2, NONE, NONE);
        shut("plums, NEEDS 6", y, 2, 2, 2, 0, 0);
        shut("plums, NEEDS 7", y, 3, 2, 2, NONE, NONE);
        shut("8 apart, NEEDS 7", y, 1, 8, 2, 1, 1);
        shut("0 apart, plums, NEEDS 6", y, 2, 0, 2, NONE, NONE);
    }

    private static void leastWindows() {
        Due.says(TERMS, "which (SINGERS, bits), of several the least; NONE.");
        JamSongs x = threeInTurn("d0,2,3;d0,2,5;d0,4,7;");
        shut("1, or 2, or 3", threeInTurn("d0,2,7;"), 0, 2, 2, 1, 1);
        shut("those in BARS 0 to 3, or in BARS 2 to 5", x, 2, 2, 2, 2, 3);
        JamSongs y = Due.kitchen("j1;s0,0,9;s1,1,9;s1,1,9;p1,2,6;p1,2,7;p2,2,7;p2,2,5;");
        Due.tune(y, 0, "0101");
        shut("nobody that it hears sings 0", y, 0, 0, 4, NONE, NONE);
        shut("the last two", y, 1, 0, 4, 2, 6);
        shut("the first", y, 2, 0, 4, 1, 1);
        shut("the first of the first and the last", y, 3, 0, 4, 1, 1);
    }

    private static void windowsThatItHears() {
        Due.says(TERMS, "(of SINGERS that it HEARS)");
        JamSongs x = threeInTurn("d0,4,6;d0,6,6;d0,6,5;d0,6,4;d0,6,0;");
        shut("HEARS the last two", x, 0, 2, 2, 1, 2);
        shut("both of the last two", x, 1, 2, 2, 2, 6);
        shut("both of the first and the last", x, 2, 2, 2, 2, 5);
        shut("the last", x, 3, 2, 2, 1, 4);
        shut("HEARS nobody", x, 4, 2, 2, 0, 0);
        x.window(4, 1, 1);
        shut("HEARS the second now", x, 4, 2, 2, 1, 2);
        x.window(3, 2, 0);
        shut("HEARS nobody now", x, 3, 2, 2, 0, 0);
    }

    private static void noWindows() {
        Due.says(TERMS, "how many; which (SINGERS, bits), of several the least; NONE.");
        JamSongs x = threeInTurn("p1,1,7;m127,1,7;d0,1,7;");
        shut("none of a TUNE of none", x, 0, 0, 0, NONE, NONE);
        shut("none of a marrow", x, 1, 8, 2, NONE, NONE);
        shut("damsons by a TUNE of none, 1 apart", x, 2, 1, 0, 0, 0);
        x.bar(0, 7, 7);
        shut("SET already", x, 0, 0, 0, 0, 0);
        shut("SET already, whatever is sung", x, 0, 2, 2, 0, 0);
        JamSongs y = Due.kitchen("j1;d0,2,0;d0,3,0;");
        Due.tune(y, 0, "00");
        shut("without SINGERS 2 BARS", y, 0, 8, 2, 0, 0);
        shut("without SINGERS 2 BARS, not 3", y, 1, 8, 2, NONE, NONE);
    }

    private static void mode(String name, JamSongs x, int pan, int n, int thick, int many, int least) {
        Due.is(name + ": how many", x.modes(pan, 0, 0, 0, n, thick, 0), many);
        Due.is(name + ": the least", x.modes(pan, 0, 0, 0, n, thick, 1), least);
    }

    private static void modesAreCounted() {
        Due.says(TERMS, "MODES: sets of NOTES (0 to 127) by which a PAN,");
        Due.says(TERMS, "would be so THICK behind a TUNE of one: how many; the least;");
        JamSongs x = Due.kitchen("j9;" + SINGER + "p0,20,1;c0,20,1;m0,20,1;d0,20,1;d0,20,0;");
        Due.tune(x, 0, "01234567");
        mode("all 7", x, 0, 7, 7, 1, 127);
        mode("the last 6, not the first", x, 0, 7, 6, 1, 126);
        mode("the last, not the one before it", x, 0, 7, 1, 32, 64);
        mode("not the last", x, 0, 7, 0, 64, 0);
        mode("8 by 7", x, 0, 7, 8, 0, NONE);
        mode("a rest behind them", x, 0, 8, 7, 1, 127);
        mode("cherries", x, 1, 7, 7, 1, 127);
        mode("a marrow", x, 2, 7, 0, 128, 0);
        mode("a marrow, 1", x, 2, 7, 1, 0, NONE);
        mode("damsons, a rest behind", x, 3, 8, 1, 128, 0);
        mode("damsons, 0", x, 3, 7, 0, 128, 0);
        mode("damsons that hear nobody", x, 4, 7, 7, 128, 0);
        mode("none sung", x, 0, 0, 0, 128, 0);
        Due.tune(x, 0, "0");
        mode("one NOTE", x, 0, 1, 1, 64, 1);
        Due.tune(x, 0, "6");
        mode("NOTE 6", x, 0, 1, 1, 64, 64);
    }

    private static void modesAllElseBeing() {
        Due.says(TERMS, "all else being as it is,");
        JamSongs x = Due.kitchen("j2;" + TWO + "p1,20,3;p1,4,1;q5,9,1;p1,9,2;");
        for (int k = 0; k < 18; k++) {
            x.bar(k < 9 ? 0 : 7, k < 9 ? 7 : 0, 7);
        }
        Due.tune(x, 0, "02");
        Due.is("THICK", x.pan(0, 3), 18);
        mode("20 by both", x, 0, 2, 20, 32, 5);
        mode("19: 16 and 1 more is not", x, 0, 2, 19, 0, NONE);
        mode("17: one of both, 2 less and 1 more, or 1 more and 2 less", x, 0, 2, 17, 64, 1);
        mode("14: neither", x, 0, 2, 14, 32, 0);
        mode("SET: by every MODE", x, 1, 2, 4, 128, 0);
        mode("SET: never else", x, 1, 2, 5, 0, NONE);
        mode("quinces: the first of a TUNE is WRONG", x, 2, 2, 1, 32 + 32, 4);
        mode("SINGER 0 is not heard", x, 3, 2, 9, 128, 0);
        x.bar(2, 7, 7);
        mode("quinces that heard 2: 0 and 2 are leaps", x, 2, 2, 2, 32, 5);
    }

    private static void modesOfNone() {
        Due.says(TERMS, "how many; the least; NONE.");
        JamSongs x = Due.kitchen("j1;" + SINGER + "p127,20,1;m127,20,1;");
        Due.tune(x, 0, "0");
        mode("20 by one NOTE", x, 0, 1, 20, 0, NONE);
        mode("1 of a marrow", x, 1, 1, 1, 0, NONE);
        mode("1 by no NOTE", x, 0, 0, 1, 0, NONE);
        mode("0 by no NOTE", x, 0, 0, 0, 128, 0);
    }

    private static void cough(String name, JamSongs x, int pan, int n, int c, int above, int below) {
        Due.is(name + ": above", x.coughs(pan, 0, 0, 0, n, c, 0), above);
        Due.is(name + ": below", x.coughs(pan, 0, 0, 0, n, c, 1), below);
    }

    private static void coughsByTen() {
        Due.says(TERMS, "COUGHS: one sings a TUNE, but in each BAR, each by itself, rests instead by c of 10: "
            + "that a PAN is SET then: a fraction.");
        JamSongs x = Due.kitchen("j1;" + SINGER + "p1,1,1;d1,1,1;");
        Due.tune(x, 0, "0");
        int[][] sung = {{1, 1}, {9, 10}, {4, 5}, {7, 10}, {3, 5}, {1, 2}, {2, 5}, {3, 10}, {1, 5}, {1, 10}, {0, 1}};
        for (int c = 0; c <= 10; c++) {
            cough("sung, c " + c, x, 0, 1, c, sung[c][0], sung[c][1]);
            cough("coughed, c " + c, x, 1, 1, c, sung[10 - c][0], sung[10 - c][1]);
        }
        JamSongs y = Due.kitchen("j1;" + SINGER + "p1,8,1;");
        Due.tune(y, 0, "00000000");
        cough("8 of 8, c 0", y, 0, 8, 0, 1, 1);
        cough("8 of 8, c 1", y, 0, 8, 1, 43046721, 100000000);
        cough("8 of 8, c 5", y, 0, 8, 5, 1, 256);
        cough("8 of 8, c 9", y, 0, 8, 9, 1, 100000000);
        cough("8 of 8, c 10", y, 0, 8, 10, 0, 1);
        cough("7 of 8, c 0", y, 0, 7, 0, 0, 1);
    }

    private static void coughsEachByItself() {
        Due.says(TERMS, "in each BAR, each by itself, rests instead by c of 10:");
        JamSongs x = Due.kitchen("j1;" + SINGER + "p1,2,1;d0,2,1;c1,2,1;");
        Due.tune(x, 0, "00000000");
        cough("2 of 3, c 5", x, 0, 3, 5, 1, 2);
        cough("2 of 4, c 5", x, 0, 4, 5, 11, 16);
        cough("two rests one behind another of 3, c 5", x, 1, 3, 5, 3, 8);
        Due.tune(x, 0, "010");
        // sung sung sung: 1 0 1; it needs the NOTE 1 coughed and both NOTES 0 sung
        cough("WRONG is coughed, RIGHT is not, c 2", x, 0, 3, 2, 16, 125);
        cough("cherries so", x, 2, 3, 2, 16, 125);
        JamSongs y = Due.kitchen("j1;s0,5,1;p1,2,1;d0,4,1;");
        Due.tune(y, 0, "0006");
        // with breath for one BAR: 0 rest 0, or rest 0 rest: only both ends make 2
        cough("breath of 1, c 1", y, 0, 3, 1, 81, 100);
        cough("a NOTE that it CANNOT sing, c 1", y, 0, 4, 1, 81, 100);
        cough("four rests, c 5", y, 1, 4, 5, 1, 8);
        Due.tune(y, 0, "7777");
        cough("rests, coughed or not", y, 1, 4, 3, 1, 1);
    }

    private static void songTakes() {
        Due.says("Promise 17", "SONG: how many PANS (k = -1), the k-th (0 on, below n).");
        JamSongs x = Due.kitchen("j1;" + SINGER + "p1,1,1;p2,2,1;");
        song(x, 0, 0, "");
        song(x, 0, 1, "0");
        song(x, 0, 1, "07");
        song(x, 0, 2, "011");
        song(x, 0, 2, "0117");
        x.bar(0, 7, 7);
        song(x, 0, 1, "");
        song(x, 0, 2, "11");
    }

    private static void songRefuses() {
        Due.says("Promise 17", "BAD.");
        JamSongs x = Due.kitchen("j1;" + THREE + "p127,20,1;");
        int[] due = {BAD, 0, 0, 0, BAD};
        for (int s = -1; s <= 3; s++) {
            Due.is("SINGER " + s, x.song(s, 1, -1), due[s + 1]);
        }
        for (int n = -1; n <= 5; n++) {
            for (int k = -2; k <= 5; k++) {
                int answer = n < 0 || n > 4 || k < -1 || k >= n ? BAD : k == -1 ? 0 : 7;
                Due.is("song(0, " + n + ", " + k + ")", x.song(0, n, k), answer);
            }
        }
        int[] far = {MIN, MIN + 1, -1000000, MAX - 1, MAX};
        for (int f : far) {
            Due.is("song(" + f + ", 1, 0)", x.song(f, 1, 0), BAD);
            Due.is("song(0, " + f + ", -1)", x.song(0, f, -1), BAD);
            Due.is("song(0, 4, " + f + ")", x.song(0, 4, f), BAD);
        }
        Due.read(x, "j1;p1,1,0;");
        Due.is("no SINGERS", x.song(0, 0, -1), BAD);
        Due.is("no KITCHEN", new JamSongs().song(0, 0, -1), BAD);
    }

    private static void toShutTakes() {
        Due.says("Promise 18", "SHUT likewise by a ROUND, d BARS apart: how many (what = 0), which (1); NONE.");
        JamSongs x = Due.kitchen("j1;" + THREE + "d0,16,4;d0,17,4;d0,20,7;");
        Due.tune(x, 0, "0000000000000000" + "7");
        Due.is("16 from 0 on, 8 apart: SET ahead of it", x.toShut(0, 8, 0, 0, 16, 0), 0);
        Due.is("16 from 0 on, 7 apart", x.toShut(0, 7, 0, 0, 16, 0), 1);
        Due.is("16 from 0 on, 7 apart: which", x.toShut(0, 7, 0, 0, 16, 1), 4);
        Due.is("17 BARS, 8 apart", x.toShut(1, 8, 0, 0, 1, 0), 1);
        Due.is("17 BARS, 8 apart: which", x.toShut(1, 8, 0, 0, 1, 1), 4);
        Due.is("16 BARS, 8 apart", x.toShut(1, 8, 0, 0, 0, 0), NONE);
        Due.is("16 BARS, 8 apart: which", x.toShut(1, 8, 0, 0, 0, 1), NONE);
        Due.is("1 from 16 on: a rest", x.toShut(1, 8, 0, 16, 1, 0), 0);
        Due.is("20 BARS: all", x.toShut(2, 2, 0, 0, 16, 0), 3);
        Due.is("20 BARS: which", x.toShut(2, 2, 0, 0, 16, 1), 7);
        Due.is("19 BARS", x.toShut(2, 2, 0, 0, 15, 0), NONE);
    }

    private static void toShutRefuses() {
        Due.says("Promise 18", "BAD: PAN, d, ROW, n, what;");
        JamSongs x = Due.kitchen("j1;" + THREE + "d0,1,0;".repeat(5));
        Due.tune(x, 0, "0");
        int[] pans = {-1, 0, 4, 5, MIN, MAX};
        for (int p : pans) {
            Due.is("PAN " + p, x.toShut(p, 0, 0, 0, 1, 0), p == 0 || p == 4 ? 0 : BAD);
        }
        int[] ds = {-1, 0, 8, 9, MIN, MAX};
        for (int d : ds) {
            Due.is("d " + d, x.toShut(0, d, 0, 0, 1, 0), d == 0 || d == 8 ? 0 : BAD);
        }
        int[] whats = {-1, 0, 1, 2, MIN, MAX};
        for (int w : whats) {
            Due.is("what " + w, x.toShut(0, 0, 0, 0, 1, w), w == 0 || w == 1 ? 0 : BAD);
        }
        Due.is("no PAN, no ROW", x.toShut(5, 0, 1, 0, 1, 0), BAD);
        Due.is("d 9, no ROW", x.toShut(0, 9, 1, 0, 1, 0), BAD);
        Due.is("what 2, no ROW", x.toShut(0, 0, 1, 0, 1, 2), BAD);
        JamSongs y = new JamSongs();
        Due.tune(y, 0, "0");
        Due.is("no KITCHEN", y.toShut(0, 0, 0, 0, 1, 0), BAD);
    }

    private static void toShutRefusesTunes() {
        Due.says("Promise 18", "NULL; PLACE; then BAD: an ITEM.");
        for (int d : new int[] {0, 8}) {
            for (int what : new int[] {0, 1}) {
                EdgesOfForetold.OfTune c = (x, row, i, n) -> x.toShut(0, d, row, i, n, what);
                EdgesOfForetold.rowsOfTune("toShut", 16, NONE, c);
                EdgesOfForetold.placesOfTune("toShut", 16, NONE, c);
                EdgesOfForetold.itemsOfTune("toShut", 16, NONE, c);
            }
        }
    }

    private static void modesTakes() {
        Due.says("Promise 19", "MODES by n ITEMS (0 to 16) of a ROW from i on, sung by one, and how THICK (0 to 20): "
            + "how many (what = 0), the least (1); NONE.");
        JamSongs x = Due.kitchen("j1;s0,6,9;s0,6,9;p0,20,3;p0,20,2;d0,16,0;");
        Due.tune(x, 0, "0000000000000000" + "6");
        Due.is("16, of which 15 are sung: 15", x.modes(0, 0, 0, 0, 16, 15, 0), 64);
        Due.is("16: the least", x.modes(0, 0, 0, 0, 16, 15, 1), 1);
        Due.is("16: 16", x.modes(0, 0, 0, 0, 16, 16, 0), 0);
        Due.is("16 from 1 on: 15", x.modes(0, 0, 0, 1, 16, 15, 1), 65);
        Due.is("1 from 16 on", x.modes(0, 0, 0, 16, 1, 1, 1), 64);
        Due.is("SINGER 1", x.modes(1, 1, 0, 0, 3, 3, 1), 1);
        Due.is("SINGER 0, who is not heard", x.modes(1, 0, 0, 0, 3, 3, 1), NONE);
        Due.is("SET by the 16th rest", x.modes(2, 0, 0, 0, 16, 16, 0), 128);
        Due.is("THICK 20", x.modes(0, 0, 0, 0, 16, 20, 1), NONE);
        for (int k = 0; k < 19; k++) {
            x.bar(k % 2 == 0 ? 7 : 0, k % 2 == 0 ? 0 : 7, 7);
        }
        Due.is("19 by no MODE yet", x.modes(0, 0, 0, 0, 0, 0, 0), 128);
        JamSongs y = Due.kitchen("j1;s0,6,9;s0,6,9;p1,20,3;");
        Due.tune(y, 0, "5");
        for (int k = 0; k < 19; k++) {
            y.bar(k % 2 == 0 ? 7 : 0, k % 2 == 0 ? 0 : 7, 7);
        }
        Due.is("20: how many", y.modes(0, 0, 0, 0, 1, 20, 0), 64);
        Due.is("20: the least", y.modes(0, 0, 0, 0, 1, 20, 1), 32);
        Due.is("18: the least", y.modes(0, 0, 0, 0, 1, 18, 1), 0);
        y.bar(0, 7, 7);
        Due.is("20, SET", y.modes(0, 0, 0, 0, 1, 20, 0), 128);
    }

    private static void modesRefuses() {
        Due.says("Promise 19", "BAD: PAN, SINGER, ROW, n, THICK, what;");
        JamSongs x = Due.kitchen("j1;" + TWO + "m0,1,0;".repeat(3));
        Due.tune(x, 0, "0");
        int[] numbers = {MIN, -1, 0, 1, 2, 3, 20, 21, MAX};
        for (int v : numbers) {
            Due.is("PAN " + v, x.modes(v, 0, 0, 0, 1, 0, 0), v >= 0 && v <= 2 ? 128 : BAD);
            Due.is("SINGER " + v, x.modes(0, v, 0, 0, 1, 0, 0), v >= 0 && v <= 1 ? 128 : BAD);
            Due.is("THICK " + v, x.modes(0, 0, 0, 0, 1, v, 0), v < 0 || v > 20 ? BAD : v == 0 ? 128 : 0);
            Due.is("what " + v, x.modes(0, 0, 0, 0, 1, 0, v), v == 0 ? 128 : v == 1 ? 0 : BAD);
        }
        Due.is("no PAN, no ROW", x.modes(3, 0, 1, 0, 1, 0, 0), BAD);
        Due.is("no SINGER, no ROW", x.modes(0, 2, 1, 0, 1, 0, 0), BAD);
        Due.is("THICK 21, no ROW", x.modes(0, 0, 1, 0, 1, 21, 0), BAD);
        Due.is("what 2, no ROW", x.modes(0, 0, 1, 0, 1, 0, 2), BAD);
        JamSongs y = new JamSongs();
        Due.tune(y, 0, "0");
        Due.is("no KITCHEN", y.modes(0, 0, 0, 0, 1, 0, 0), BAD);
    }

    private static void modesRefusesTunes() {
        Due.says("Promise 19", "NULL; PLACE; then BAD: an ITEM.");
        for (int what : new int[] {0, 1}) {
            EdgesOfForetold.OfTune c = (x, row, i, n) -> x.modes(0, 0, row, i, n, 0, what);
            int due = what == 0 ? 128 : 0;
            EdgesOfForetold.rowsOfTune("modes", 16, due, c);
            EdgesOfForetold.placesOfTune("modes", 16, due, c);
            EdgesOfForetold.itemsOfTune("modes", 16, due, c);
        }
    }

    private static void coughsTakes() {
        Due.says("Promise 20", "COUGHS by n ITEMS (0 to 8) of a ROW from i on (c 0 to 10): above (what = 0), below (1).");
        JamSongs x = Due.kitchen("j1;" + TWO + "p1,1,1;p64,1,2;d0,8,0;d0,9,0;");
        Due.tune(x, 0, "66666666" + "0");
        cough("none, not SET", x, 0, 0, 5, 0, 1);
        cough("8 from 0 on", x, 0, 8, 5, 0, 1);
        Due.is("8 from 1 on: above", x.coughs(0, 0, 0, 1, 8, 5, 0), 1);
        Due.is("8 from 1 on: below", x.coughs(0, 0, 0, 1, 8, 5, 1), 2);
        Due.is("1 from 8 on, c 4: above", x.coughs(0, 0, 0, 8, 1, 4, 0), 3);
        Due.is("1 from 8 on, c 4: below", x.coughs(0, 0, 0, 8, 1, 4, 1), 5);
        Due.is("SINGER 1: above", x.coughs(1, 1, 0, 0, 8, 9, 0), 56953279);
        Due.is("SINGER 1: below", x.coughs(1, 1, 0, 0, 8, 9, 1), 100000000);
        cough("8 BARS", x, 2, 8, 5, 1, 1);
        cough("8 BARS, not 9", x, 3, 8, 5, 0, 1);
        cough("7 BARS, not 8", x, 2, 7, 5, 0, 1);
        x.bar(0, 7, 7);
        cough("none, SET", x, 0, 0, 10, 1, 1);
        cough("8 BARS now", x, 3, 8, 0, 1, 1);
    }

    private static void coughsRefuses() {
        Due.says("Promise 20", "BAD: PAN, SINGER, ROW, n, c, what;");
        JamSongs x = Due.kitchen("j1;" + TWO + "m0,1,0;".repeat(3));
        Due.tune(x, 0, "0");
        int[] numbers = {MIN, -1, 0, 1, 2, 3, 9, 10, 11, MAX};
        for (int v : numbers) {
            Due.is("PAN " + v, x.coughs(v, 0, 0, 0, 1, 0, 1), v >= 0 && v <= 2 ? 1 : BAD);
            Due.is("SINGER " + v, x.coughs(0, v, 0, 0, 1, 0, 1), v >= 0 && v <= 1 ? 1 : BAD);
            Due.is("c " + v, x.coughs(0, 0, 0, 0, 1, v, 1), v >= 0 && v <= 10 ? 1 : BAD);
            Due.is("what " + v, x.coughs(0, 0, 0, 0, 1, 0, v), v == 0 || v == 1 ? v : BAD);
        }
        Due.is("no PAN, no ROW", x.coughs(3, 0, 1, 0, 1, 0, 0), BAD);
        Due.is("no SINGER, no ROW", x.coughs(0, 2, 1, 0, 1, 0, 0), BAD);
        Due.is("c 11, no ROW", x.coughs(0, 0, 1, 0, 1, 11, 0), BAD);
        Due.is("what 2, no ROW", x.coughs(0, 0, 1, 0, 1, 0, 2), BAD);
        JamSongs y = new JamSongs();
        Due.tune(y, 0, "0");
        Due.is("no KITCHEN", y.coughs(0, 0, 0, 0, 1, 0, 0), BAD);
    }

    private static void coughsRefusesTunes() {
        Due.says("Promise 20", "NULL; PLACE; then BAD: an ITEM.");
        for (int what : new int[] {0, 1}) {
            for (int c10 : new int[] {0, 5, 10}) {
                EdgesOfForetold.OfTune c = (x, row, i, n) -> x.coughs(0, 0, row, i, n, c10, what);
                EdgesOfForetold.rowsOfTune("coughs", 8, what, c);
                EdgesOfForetold.placesOfTune("coughs", 8, what, c);
                EdgesOfForetold.itemsOfTune("coughs", 8, what, c);
            }
        }
    }
}
