/** What comes round again from the start, as often as an object's 512 calls allow. */
final class EdgesOfLongUse {
    private static final int BAD = JamSongs.BAD, STATE = JamSongs.STATE, FULL = JamSongs.FULL;
    private static final int NULL = -1000011;
    private static final String TERMS = "Terms", SINGER = "s0,6,9;";

    private EdgesOfLongUse() { }

    static void all() {
        barsUpToTheLastCall();
        actsRoundAndRound();
        windowsRoundAndRound();
        undoneAndSungAgain();
        theTapeFourTimes();
        kitchensAgainAndAgain();
        rowsAgainAndAgain();
        imagesAgainAndAgain();
        foretoldAgainAndAgain();
        refusedAgainAndAgain();
    }

    private static void barsUpToTheLastCall() {
        Due.says("Promise 9", "A BAR: what SINGERS 0, 1, 2 sing");
        JamSongs x = Due.kitchen("j1;d0,20,0;d0,1,0;");
        for (int b = 1; b <= 488; b++) {
            Due.is("bar " + b, x.bar(7, 7, 7), b < 20 ? 2 : 3);
        }
        Due.is("THICK", x.pan(0, 3), 20);
        Due.is("the BAR", x.count(3), 488);
        Due.is("ACTS", x.count(6), 24);
        Due.is("undo()", x.undo(), 23);
        Due.is("the BAR, one undone: call 512", x.count(3), 487);
    }

    /** The last 24 of 200 are undone, each to what it was ahead of it. */
    private static void actsRoundAndRound() {
        Due.says(TERMS, "ACTS (24 at most are kept, of more the oldest is forgotten; each can be undone, the latest "
            + "first;");
        JamSongs x = Due.kitchen("j1;" + SINGER + "p127,20,1;");
        int[] heard = new int[201];
        int[] sung = new int[201];
        heard[0] = JamSongs.NONE;
        for (int k = 1; k <= 200; k++) {
            int note = k % 8;
            x.bar(note, 7, 7);
            heard[k] = note == 7 || k >= 22 ? JamSongs.NONE : note;
            sung[k] = note == 7 ? 0 : sung[k - 1] + 1;
        }
        for (int k = 199; k >= 176; k--) {
            Due.is("undo() to BAR " + k, x.undo(), k - 176);
            Due.is("the BAR", x.count(3), k);
            Due.is("sung", x.singer(0, 3), sung[k]);
            Due.is("heard", x.pan(0, 5), heard[k]);
            Due.is("SET", x.count(5), 1);
        }
        Due.is("no more", x.undo(), STATE);
        Due.is("the BAR", x.count(3), 176);
    }

    private static void windowsRoundAndRound() {
        Due.says("Promise 10", "A PAN HEARS a SINGER (1), or does not (0): 1.");
        JamSongs x = Due.kitchen("j1;" + SINGER + SINGER + SINGER + "p1,9,0;p1,9,7;");
        for (int k = 0; k < 60; k++) {
            int open = 1 - k / 3 % 2;
            Due.is("window(0, ..) " + k, x.window(0, k % 3, open), 1);
            Due.is("it is so", x.window(0, k % 3, open), STATE);
        }
        Due.is("all are shut", x.pan(0, 2), 0);
        Due.is("the other PAN", x.pan(1, 2), 7);
        for (int k = 59; k >= 36; k--) {
            x.undo();
            int before = k % 6 <= 3 ? (1 << k % 6 % 4) - 1 : 7 & ~((1 << k % 3) - 1);
            Due.is("HEARS ahead of window " + k, x.pan(0, 2), before);
        }
        Due.is("no more", x.undo(), STATE);
        Due.is("as behind window 35", x.pan(0, 2), 0);
    }

    private static void undoneAndSungAgain() {
        Due.says("Promise 11", "The latest ACT is undone: how many can be undone yet.");
        JamSongs x = Due.kitchen("j1;" + SINGER + "p127,2,1;");
        for (int again = 0; again < 60; again++) {
            Due.is("NOTE 0", x.bar(0, 7, 7), 0);
            Due.is("NOTE 1", x.bar(1, 7, 7), 1);
            Due.is("undo()", x.undo(), 1);
            Due.is("undo() again", x.undo(), 0);
            Due.is("none", x.undo(), STATE);
            Due.is("THICK", x.pan(0, 3), 0);
            Due.is("the BAR", x.count(3), 0);
        }
    }

    private static void theTapeFourTimes() {
        Due.says("Promise 6", "A byte (0 to 255) comes behind the tape: how many it has.");
        JamSongs x = new JamSongs();
        for (int again = 0; again < 4; again++) {
            for (int k = 1; k <= 120; k++) {
                Due.is("feed " + k, x.feed(k == 1 ? 'j' : k == 2 ? '1' + again : k == 3 ? ';' : 'x'), k);
            }
            Due.is("feed 121", x.feed('x'), FULL);
            Due.is("kitchen", x.kitchen(), -1000103);
        }
        Due.feed(x, "j9;");
        Due.is("a text behind them", x.kitchen(), 0);
        Due.is("BACK", x.count(4), 9);
    }

    private static void kitchensAgainAndAgain() {
        Due.says("Promise 7", "The tape, empty then, is read: how many PANS there are.");
        JamSongs x = new JamSongs();
        Due.is("the empty tape", x.kitchen(), -1000100);
        String[] texts = {"j1;s0,6,9;d0,1,1;d0,2,0;", "j2;", "j0;", "j3;s1,5,2;s2,4,3;", "j4;c5,3,0;"};
        int[] due = {2, 0, -1000101, 0, 1};
        int[] pans = {2, 0, 0, 0, 1};
        int[] singers = {1, 0, 0, 2, 0};
        for (int again = 0; again < 5; again++) {
            for (int t = 0; t < texts.length; t++) {
                Due.is(texts[t], Due.read(x, texts[t]), due[t]);
                Due.is("PANS", x.count(2), pans[t]);
                Due.is("SINGERS", x.count(1), singers[t]);
                Due.is("no such PAN", x.pan(pans[t], 0), BAD);
                Due.is("no such SINGER", x.singer(singers[t], 0), BAD);
                Due.is("SET", x.bar(7, 7, 7), t == 0 ? 1 : 0);
            }
        }
    }

    private static void rowsAgainAndAgain() {
        Due.says("Promise 2", "A ROW of a LANE with n ITEMS, in place of what is there: n.");
        JamSongs x = new JamSongs();
        for (int again = 0; again < 9; again++) {
            for (int r = 0; r < 8; r++) {
                int n = (5 * r + 8 * again) % 41;
                Due.is("row", x.row(r, (r + again) % 3, n), n);
                Due.is("its last ITEM", x.set(r, n - 1, 3), n > 0 ? 3 : -1000012);
                Due.is("behind it", x.set(r, n, 3), -1000012);
                Due.is("ROWS", x.count(0), r + 1);
            }
            for (int r = 0; r < 8; r++) {
                Due.is("drop", x.drop(r), (5 * r + 8 * again) % 41);
                Due.is("drop again", x.drop(r), NULL);
            }
        }
    }

    private static void imagesAgainAndAgain() {
        Due.says("Promise 22", "The KITCHEN is as an IMAGE kept it (no ACT can be undone then): 1.");
        JamSongs x = Due.kitchen("j1;" + SINGER + "p127,20,1;");
        x.image(0);
        for (int again = 1; again <= 15; again++) {
            x.restore(0);
            x.bar(again % 7, 7, 7);
            Due.is("THICK", x.pan(0, 3), again);
            Due.is("ACTS", x.count(6), 1);
            x.image(1);
            x.bar(7, 7, 7);
            Due.is("restore(1)", x.restore(1), 1);
            Due.is("ACTS behind restore(1)", x.count(6), 0);
            Due.is("the BAR", x.count(3), 2 * again - 1);
            x.bar(7, 7, 7);
            Due.is("image(0)", x.image(0), 1);
            Due.is("undo()", x.undo(), 0);
            Due.is("the BAR, one undone", x.count(3), 2 * again - 1);
        }
        Due.is("restore(0)", x.restore(0), 1);
        Due.is("the BAR", x.count(3), 30);
        Due.is("restore(1)", x.restore(1), 1);
        Due.is("the BAR of the other", x.count(3), 29);
    }

    /** Foretold again and again, each answer is the first one's. */
    private static void foretoldAgainAndAgain() {
        Due.says(TERMS, "3 FORETOLD (nothing changes; from this BAR on, as all is now).");
        JamSongs x = Twins.story();
        int[] first = foretold(x);
        for (int again = 0; again < 20; again++) {
            int[] later = foretold(x);
            for (int k = 0; k < first.length; k++) {
                Due.is("call " + k + ", again", later[k], first[k]);
            }
        }
        Due.is("the BAR", x.count(3), 4);
        Due.is("ACTS", x.count(6), 6);
    }

    private static int[] foretold(JamSongs x) {
        return new int[] {x.alone(0, 0, 0, 8), x.round(8, 0, 0, 8), x.bestRound(0, 0, 8, 0), x.bestRound(0, 0, 8, 1),
            x.song(0, 4, -1), x.song(0, 4, 0), x.song(1, 4, 3), x.toShut(1, 2, 0, 0, 8, 1), x.toShut(2, 1, 0, 0, 8, 0),
            x.modes(1, 0, 0, 0, 8, 3, 0), x.modes(1, 0, 0, 0, 8, 3, 1), x.coughs(2, 0, 0, 0, 8, 3, 0),
            x.coughs(2, 0, 0, 0, 8, 3, 1)};
    }

    private static void refusedAgainAndAgain() {
        Due.says(TERMS, "What is refused, or found, changes nothing but status().");
        JamSongs touched = Twins.story();
        JamSongs other = Twins.story();
        for (int again = 0; again < 30; again++) {
            Due.is("bar", touched.bar(0, 0, 8), BAD);
            Due.is("bar by one who CANNOT", touched.bar(0, 0, 7), STATE);
            Due.is("window", touched.window(0, 0, 1), STATE);
            Due.is("restore", touched.restore(1), STATE);
            Due.is("song", touched.song(0, 5, 0), BAD);
            Due.is("drop", touched.drop(3), NULL);
        }
        for (int k = 5; k >= 0; k--) {
            Due.is("undo()", touched.undo(), other.undo());
            Due.is("the BAR", touched.count(3), other.count(3));
            Due.is("THICK", touched.pan(0, 3), other.pan(0, 3));
        }
        Due.is("none is left", touched.undo(), STATE);
    }
}
