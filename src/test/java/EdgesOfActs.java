/** The edges of promises 9 to 13, 21 and 22, and of what 'Terms' says of a BAR and of ACTS. */
final class EdgesOfActs {
    private static final int BAD = JamSongs.BAD, STATE = JamSongs.STATE, NONE = JamSongs.NONE;
    private static final String TERMS = "Terms", SINGER = "s0,6,9;";

    private EdgesOfActs() { }

    static void all() {
        notesAndRests();
        lowToHigh();
        breath();
        breathOfNine();
        whoIsHeard();
        right();
        wrong();
        still();
        plums();
        cherries();
        quincesLeap();
        quincesHeardBefore();
        quincesByTheLeast();
        marrows();
        damsons();
        setIsSet();
        setForEver();
        actsAtMost();
        actsComeRoundAgain();
        actsOfWindows();
        actsByWhichNothingBecomesAnother();
        barTakes();
        barRefuses();
        barRefusesWhoCannot();
        windowTakes();
        windowRefuses();
        windowIsSo();
        undoTakes();
        undoRefuses();
        panTells();
        panTellsWhatItHeard();
        panRefuses();
        singerTells();
        singerRefuses();
        imageKeeps();
        imageRefuses();
        restoreBrings();
        restoreBringsWindows();
        restoreRefuses();
    }

    private static void thick(JamSongs x, String notes, int... due) {
        for (int k = 0; k < due.length; k++) {
            Due.sing(x, notes.substring(k, k + 1));
            Due.is("THICK behind the first " + (k + 1) + " of " + notes, x.pan(0, 3), due[k]);
        }
    }

    private static void notesAndRests() {
        Due.says(TERMS, "2 A BAR: each SINGER sings a NOTE (0 to 6), or rests (7).");
        JamSongs x = Due.kitchen("j1;" + SINGER + SINGER + SINGER);
        for (int s = 0; s < 3; s++) {
            for (int note = -1; note <= 8; note++) {
                int[] b = {7, 7, 7};
                b[s] = note;
                int due = note < 0 || note > 7 ? BAD : 0;
                Due.is("SINGER " + s + " by " + note, x.bar(b[0], b[1], b[2]), due);
                if (due == 0) {
                    Due.is("it sang " + note, x.singer(s, 3) > 0 ? 1 : 0, note == 7 ? 0 : 1);
                }
            }
        }
        Due.is("BARS", x.count(3), 24);
        Due.is("all sing", x.bar(0, 3, 6), 0);
        Due.is("all rest", x.bar(7, 7, 7), 0);
    }

    private static void lowToHigh() {
        Due.says(TERMS, "A SINGER CAN sing a NOTE of LOW to HIGH,");
        for (int low = 0; low <= 6; low++) {
            for (int high = low; high <= 6; high++) {
                JamSongs x = Due.kitchen("j1;s" + low + "," + high + ",9;");
                for (int note = 0; note <= 6; note++) {
                    boolean can = note >= low && note <= high;
                    Due.is(note + " of " + low + " to " + high, x.bar(note, 7, 7), can ? 0 : STATE);
                }
                Due.is("BARS", x.count(3), high - low + 1);
            }
        }
    }

    private static void breath() {
        Due.says(TERMS, "unless it has sung in as many BARS one behind another as BREATH.");
        JamSongs x = Due.kitchen("j1;s0,6,1;s0,6,2;");
        Due.is("1 of 1, 1 of 2", x.bar(0, 0, 7), 0);
        Due.is("2 of 1", x.bar(0, 7, 7), STATE);
        Due.is("2 of 2", x.bar(7, 0, 7), 0);
        Due.is("3 of 2", x.bar(7, 0, 7), STATE);
        Due.is("after a rest 1 of 1", x.bar(0, 7, 7), 0);
        Due.is("after a rest 1 of 2", x.bar(7, 0, 7), 0);
        Due.is("2 of 2", x.bar(7, 0, 7), 0);
        Due.is("3 of 2", x.bar(7, 0, 7), STATE);
        Due.is("a rest it can", x.bar(0, 7, 7), 0);
        Due.is("BARS", x.count(3), 6);
    }

    private static void breathOfNine() {
        Due.says(TERMS, "unless it has sung in as many BARS one behind another as BREATH.");
        JamSongs x = Due.kitchen("j1;" + SINGER);
        for (int again = 0; again < 3; again++) {
            for (int k = 1; k <= 9; k++) {
                Due.is(k + " of 9", x.bar(k % 7, 7, 7), 0);
                Due.is("BARS one behind another", x.singer(0, 3), k);
            }
            Due.is("10 of 9", x.bar(0, 7, 7), STATE);
            Due.is("it stays", x.singer(0, 3), 9);
            Due.is("a rest", x.bar(7, 7, 7), 0);
            Due.is("from the start again", x.singer(0, 3), 0);
        }
    }

    private static void whoIsHeard() {
        Due.says(TERMS, "Each PAN that is not SET hears all NOTES of SINGERS of HEARS:");
        JamSongs x = Due.kitchen("j1;" + SINGER + SINGER + SINGER + "p1,9,0;p1,9,1;p1,9,2;p1,9,4;p127,1,7;");
        Due.is("the last is SET", x.bar(0, 1, 2), 16);
        int[] due = {NONE, 0, 1, 2, NONE};
        int[] thick = {0, 1, 0, 0, 1};
        for (int p = 0; p < 5; p++) {
            Due.is("heard by PAN " + p, x.pan(p, 5), due[p]);
            Due.is("THICK of PAN " + p, x.pan(p, 3), thick[p]);
        }
        x.bar(2, 1, 0);
        int[] later = {NONE, 2, 1, 0, NONE};
        for (int p = 0; p < 5; p++) {
            Due.is("heard later by PAN " + p, x.pan(p, 5), later[p]);
        }
        Due.is("the SET one hears nothing", x.pan(4, 3), 1);
    }

    private static void right() {
        Due.says(TERMS, "if there are some, and all are of MODE, it is RIGHT;");
        JamSongs x = Due.kitchen("j9;" + SINGER + SINGER + SINGER + "p65,20,7;");
        int[][] bars = {{0, 7, 7}, {7, 6, 7}, {0, 6, 7}, {6, 0, 6}, {7, 7, 0}};
        for (int k = 0; k < bars.length; k++) {
            x.bar(bars[k][0], bars[k][1], bars[k][2]);
            Due.is("THICK behind BAR " + k, x.pan(0, 3), k + 1);
        }
        JamSongs y = Due.kitchen("j1;" + SINGER + "p127,20,1;");
        thick(y, "0123456", 1, 2, 3, 4, 5, 6, 7);
    }

    private static void wrong() {
        Due.says(TERMS, "if there are some, and one is not, it is WRONG;");
        JamSongs x = Due.kitchen("j9;" + SINGER + SINGER + SINGER + "p65,20,7;");
        int[][] bars = {{1, 7, 7}, {7, 5, 7}, {0, 6, 1}, {0, 5, 6}, {1, 0, 6}};
        for (int[] b : bars) {
            x.bar(0, 7, 7);
            Due.is("THICK by RIGHT", x.pan(0, 3), 1);
            x.bar(b[0], b[1], b[2]);
            Due.is("THICK by " + b[0] + b[1] + b[2], x.pan(0, 3), 0);
        }
        JamSongs y = Due.kitchen("j1;" + SINGER + "p0,20,1;c0,20,1;");
        thick(y, "0123456", 0, 0, 0, 0, 0, 0, 0);
        Due.is("cherries of no MODE", y.pan(1, 3), 0);
    }

    private static void still() {
        Due.says(TERMS, "if there are none, it is STILL.");
        JamSongs x = Due.kitchen("j9;" + SINGER + SINGER + "p1,20,1;p1,20,0;d1,20,0;d1,20,1;");
        x.bar(0, 7, 7);
        x.bar(7, 7, 7);
        Due.is("plums stay when all rest", x.pan(0, 3), 1);
        x.bar(7, 1, 7);
        Due.is("plums stay when one sings that it does not hear", x.pan(0, 3), 1);
        Due.is("plums that hear nobody", x.pan(1, 3), 0);
        Due.is("damsons that hear nobody", x.pan(2, 3), 3);
        Due.is("damsons that heard one BAR", x.pan(3, 3), 2);
    }

    private static void plums() {
        Due.says(TERMS, "THICK of plums is 1 more by RIGHT, BACK less by WRONG (0 at least);");
        thick(Due.kitchen("j1;" + SINGER + "p1,20,1;"), "1001101", 0, 1, 2, 1, 0, 1, 0);
        thick(Due.kitchen("j2;" + SINGER + "p1,20,1;"), "0001010", 1, 2, 3, 1, 2, 0, 1);
        thick(Due.kitchen("j3;" + SINGER + "p1,20,1;"), "000010", 1, 2, 3, 4, 1, 2);
        thick(Due.kitchen("j3;" + SINGER + "p1,20,1;"), "00010", 1, 2, 3, 0, 1);
        thick(Due.kitchen("j3;" + SINGER + "p1,20,1;"), "0010", 1, 2, 0, 1);
        JamSongs x = Due.kitchen("j9;s0,6,9;s0,6,9;p1,20,3;");
        for (int k = 1; k <= 10; k++) {
            x.bar(k <= 5 ? 0 : 7, k <= 5 ? 7 : 0, 7);
        }
        Due.is("10 by RIGHT", x.pan(0, 3), 10);
        x.bar(1, 7, 7);
        Due.is("9 less by WRONG", x.pan(0, 3), 1);
        x.bar(1, 7, 7);
        Due.is("0 at least", x.pan(0, 3), 0);
    }

    private static void cherries() {
        Due.says(TERMS, "of cherries so, but 0 by WRONG;");
        thick(Due.kitchen("j1;" + SINGER + "c1,20,1;"), "10000710", 0, 1, 2, 3, 4, 4, 0, 1);
        thick(Due.kitchen("j9;" + SINGER + "c1,3,1;"), "0010700", 1, 2, 0, 1, 1, 2, 3);
    }

    private static void quincesLeap() {
        Due.says(TERMS, "of quinces as of plums, but RIGHT only if the least NOTE it hears is 2 more, or 2 less,");
        for (int from = 0; from <= 6; from++) {
            for (int to = 0; to <= 6; to++) {
                JamSongs x = Due.kitchen("j1;" + SINGER + "q127,20,1;");
                Due.sing(x, "" + from + to);
                int apart = Math.abs(to - from);
                Due.is(from + " and then " + to, x.pan(0, 3), apart == 2 ? 1 : 0);
            }
        }
        thick(Due.kitchen("j2;" + SINGER + "q127,20,1;"), "024642453", 0, 1, 2, 3, 4, 5, 6, 4, 5);
        thick(Due.kitchen("j2;" + SINGER + "q127,20,1;"), "0242323", 0, 1, 2, 3, 1, 0, 0);
        thick(Due.kitchen("j1;" + SINGER + "q5,20,1;"), "02420", 0, 1, 0, 1, 2);
    }

    private static void quincesHeardBefore() {
        Due.says(TERMS, "than the least one it heard in the BAR before (it heard some), else WRONG;");
        thick(Due.kitchen("j1;" + SINGER + "q127,20,1;"), "2", 0);
        thick(Due.kitchen("j1;" + SINGER + "q127,20,1;"), "0202720", 0, 1, 2, 3, 3, 2, 3);
        JamSongs x = Due.kitchen("j1;" + SINGER + SINGER + "q127,20,1;");
        x.bar(0, 7, 7);
        x.window(0, 0, 0);
        Due.is("heard ahead of the window", x.pan(0, 5), 0);
        x.window(0, 1, 1);
        x.bar(0, 2, 7);
        Due.is("2 more than what was heard through another window", x.pan(0, 3), 1);
        x.window(0, 1, 0);
        x.bar(0, 0, 7);
        Due.is("STILL", x.pan(0, 3), 1);
        x.window(0, 1, 1);
        x.bar(7, 0, 7);
        Due.is("it heard none in the BAR before", x.pan(0, 3), 0);
    }

    private static void quincesByTheLeast() {
        Due.says(TERMS, "the least NOTE it hears is 2 more, or 2 less, than the least one it heard in the BAR before");
        JamSongs x = Due.kitchen("j1;" + SINGER + SINGER + SINGER + "q127,20,7;q119,20,3;");
        int[][] bars = {{4, 1, 6}, {3, 6, 4}, {5, 1, 3}, {6, 5, 4}, {6, 6, 6}, {4, 4, 7}, {2, 3, 6}};
        int[] due = {0, 1, 2, 1, 2, 3, 4};
        int[] dueWithout3 = {0, 0, 1, 0, 0, 1, 0};
        for (int k = 0; k < bars.length; k++) {
            x.bar(bars[k][0], bars[k][1], bars[k][2]);
            Due.is("THICK behind BAR " + k, x.pan(0, 3), due[k]);
            Due.is("THICK, 3 not of MODE, behind BAR " + k, x.pan(1, 3), dueWithout3[k]);
        }
    }

    private static void marrows() {
        Due.says(TERMS, "of a marrow it stays;");
        JamSongs x = Due.kitchen("j1;" + SINGER + "m127,1,1;m0,1,1;m127,1,0;");
        Due.is("by RIGHT, by WRONG, by STILL", x.bar(0, 7, 7), 0);
        for (int p = 0; p < 3; p++) {
            Due.is("THICK of " + p, x.pan(p, 3), 0);
        }
        Due.is("it hears all the same", x.pan(0, 5), 0);
        Due.rest(x, 20);
        Due.is("never SET", x.count(5), 0);
    }

    private static void damsons() {
        Due.says(TERMS, "of damsons it is 1 more by STILL, and 0 by RIGHT and by WRONG.");
        thick(Due.kitchen("j1;" + SINGER + "d1,20,1;"), "7770777171", 1, 2, 3, 0, 1, 2, 3, 0, 1, 0);
        thick(Due.kitchen("j1;" + SINGER + "d1,3,1;"), "77077701", 1, 2, 0, 1, 2, 3, 3, 3);
    }

    private static void setIsSet() {
        Due.says(TERMS, "What is as THICK as it NEEDS is SET,");
        JamSongs x = Due.kitchen("j1;" + SINGER + "p1,1,1;p1,2,1;d1,1,0;d1,20,0;c1,20,1;");
        int[] due = {5, 7, 7, 7, 7, 7, 7, 7, 7};
        for (int k = 0; k < 9; k++) {
            Due.is("by BAR " + k, x.bar(0, 7, 7), due[k]);
        }
        for (int k = 9; k < 19; k++) {
            Due.is("by BAR " + k, x.bar(7, 7, 7), 7);
        }
        Due.is("19 of 20", x.pan(3, 3), 19);
        Due.is("not SET", x.pan(3, 4), 0);
        Due.is("by BAR 19", x.bar(7, 7, 7), 15);
        Due.is("20 of 20", x.pan(3, 3), 20);
        Due.is("SET", x.pan(3, 4), 1);
        Due.is("9 of 20", x.pan(4, 3), 9);
    }

    private static void setForEver() {
        Due.says(TERMS, "is SET, for ever.");
        JamSongs x = Due.kitchen("j9;" + SINGER + "p1,1,1;c1,1,1;q127,1,1;d0,1,1;");
        x.bar(0, 7, 7);
        x.bar(2, 7, 7);
        x.bar(7, 7, 7);
        Due.is("all are SET", x.count(5), 15);
        int[] later = {1, 1, 7, 3, 3, 0, 7, 7};
        for (int note : later) {
            Due.is("by " + note, x.bar(note, 7, 7), 15);
            for (int p = 0; p < 4; p++) {
                Due.is("THICK of " + p, x.pan(p, 3), 1);
            }
        }
        x.window(0, 0, 0);
        Due.is("also with its window shut", x.count(5), 15);
    }

    private static void actsAtMost() {
        Due.says(TERMS, "ACTS (24 at most are kept, of more the oldest is forgotten;");
        for (int bars : new int[] {23, 24, 25, 48, 49}) {
            JamSongs x = Due.kitchen("j1;" + SINGER + "d0,20,0;");
            Due.rest(x, bars);
            int kept = Math.min(bars, 24);
            Due.is("kept of " + bars, x.count(6), kept);
            for (int k = kept - 1; k >= 0; k--) {
                Due.is("undo() of " + bars, x.undo(), k);
                Due.is("the BAR", x.count(3), bars - kept + k);
            }
            Due.is("no more of " + bars, x.undo(), STATE);
            Due.is("the BAR that is left", x.count(3), bars - kept);
            Due.is("its THICK", x.pan(0, 3), Math.min(bars - kept, 20));
            Due.rest(x, 30);
            for (int k = 23; k >= 0; k--) {
                Due.is("undo() of 30 more than " + bars, x.undo(), k);
                Due.is("the BAR", x.count(3), bars - kept + 6 + k);
            }
            Due.is("no more of 30 more than " + bars, x.undo(), STATE);
        }
    }

    private static void actsComeRoundAgain() {
        Due.says(TERMS, "each can be undone, the latest first;");
        JamSongs x = Due.kitchen("j1;" + SINGER + "p127,20,1;");
        for (int again = 0; again < 4; again++) {
            for (int k = 0; k < 7; k++) {
                x.bar(k, 7, 7);
            }
            for (int k = 6; k > 0; k--) {
                x.undo();
                Due.is("heard ahead of BAR " + k, x.pan(0, 5), k - 1);
                Due.is("sung ahead of BAR " + k, x.singer(0, 3), k);
                Due.is("THICK ahead of BAR " + k, x.pan(0, 3), k + again);
            }
            x.bar(7, 7, 7);
            Due.is("ACTS", x.count(6), 2 + 2 * again);
        }
        for (int k = 7; k >= 0; k--) {
            Due.is("undo()", x.undo(), k);
        }
        Due.is("none", x.undo(), STATE);
    }

    private static void actsOfWindows() {
        Due.says(TERMS, "a BAR is sung; a window is opened, or shut (a PAN HEARS a SINGER, or does not).");
        JamSongs x = Due.kitchen("j1;" + SINGER + SINGER + "p127,20,1;p127,20,0;");
        x.window(0, 0, 0);
        Due.is("shut", x.pan(0, 2), 0);
        x.bar(0, 1, 7);
        x.window(1, 1, 1);
        Due.is("opened", x.pan(1, 2), 2);
        Due.is("three ACTS", x.count(6), 3);
        Due.is("the window undone", x.undo(), 2);
        Due.is("it is shut", x.pan(1, 2), 0);
        Due.is("the BAR is not undone", x.count(3), 1);
        Due.is("the BAR undone", x.undo(), 1);
        Due.is("the other window is shut yet", x.pan(0, 2), 0);
        Due.is("it undone", x.undo(), 0);
        Due.is("it is open", x.pan(0, 2), 1);
        x.window(0, 0, 0);
        Due.rest(x, 24);
        for (int k = 0; k < 24; k++) {
            x.undo();
        }
        Due.is("a window that is forgotten", x.undo(), STATE);
        Due.is("it stays shut", x.pan(0, 2), 0);
    }

    private static void actsByWhichNothingBecomesAnother() {
        Due.says(TERMS, "also such by which nothing becomes another):");
        JamSongs x = Due.kitchen("j1;");
        Due.is("a BAR without SINGERS and PANS", x.bar(7, 7, 7), 0);
        Due.is("it is an ACT", x.count(6), 1);
        Due.is("it can be undone", x.undo(), 0);
        Due.is("BAR 0", x.count(3), 0);
        JamSongs y = Due.kitchen("j1;" + SINGER + "p1,1,1;");
        y.bar(0, 7, 7);
        y.window(0, 0, 0);
        y.window(0, 0, 1);
        y.bar(7, 7, 7);
        y.bar(7, 7, 7);
        Due.is("5 ACTS", y.count(6), 5);
        Due.is("a BAR behind which all is SET", y.undo(), 4);
        Due.is("BAR 2", y.count(3), 2);
    }

    private static void barTakes() {
        Due.says("Promise 9", "A BAR: what SINGERS 0, 1, 2 sing (0 to 7; 7, where there is none): PANS that are SET "
            + "then (bits).");
        String text = "j1;";
        for (int singers = 0; singers <= 3; singers++) {
            JamSongs x = Due.kitchen(text + "d0,1,0;");
            Due.is("rests", x.bar(7, 7, 7), 1);
            for (int s = 0; s < 3; s++) {
                for (int note : new int[] {-1, 0, 6, 8}) {
                    int[] b = {7, 7, 7};
                    b[s] = note;
                    int due = note < 0 || note > 7 || s >= singers ? BAD : 1;
                    Due.is(singers + " SINGERS, " + s + " by " + note, x.bar(b[0], b[1], b[2]), due);
                }
            }
            text = text + SINGER;
        }
        JamSongs y = Due.kitchen("j1;s0,0,9;s1,1,9;s2,2,9;p1,1,1;p2,1,2;p4,1,4;");
        Due.is("SINGER 2", y.bar(7, 7, 2), 4);
        Due.is("SINGER 0", y.bar(0, 7, 7), 5);
        Due.is("SINGER 1", y.bar(7, 1, 7), 7);
    }

    private static void barRefuses() {
        Due.says("Promise 9", "BAD; STATE: no KITCHEN (ahead of BAD),");
        JamSongs x = new JamSongs();
        Due.is("no KITCHEN", x.bar(7, 7, 7), STATE);
        Due.is("no KITCHEN, ahead of BAD", x.bar(8, -1, 0), STATE);
        Due.read(x, "j0;");
        Due.is("a FAULT is no KITCHEN", x.bar(7, 7, 7), STATE);
        Due.read(x, "j1;");
        Due.is("a KITCHEN of nobody", x.bar(7, 7, 7), 0);
        Due.is("a NOTE of nobody", x.bar(0, 7, 7), BAD);
        Due.is("BARS", x.count(3), 1);
        int[][] bad = {{-1, 7, 7}, {8, 7, 7}, {7, -1, 7}, {7, 8, 7}, {7, 7, -1}, {7, 7, 8},
            {Integer.MIN_VALUE, 7, 7}, {7, Integer.MAX_VALUE, 7}};
        for (int[] b : bad) {
            Twins.refuses("bar(" + b[0] + ", " + b[1] + ", " + b[2] + ")", BAD, y -> y.bar(b[0], b[1], b[2]));
        }
    }

    private static void barRefusesWhoCannot() {
        Due.says("Promise 9", "one CANNOT.");
        int[][] cannot = {{0, 0, 7}, {0, 6, 7}, {7, 7, 3}, {0, 1, 3}, {0, 1, 2}};
        for (int[] b : cannot) {
            Twins.refuses("bar(" + b[0] + ", " + b[1] + ", " + b[2] + ")", STATE, x -> x.bar(b[0], b[1], b[2]));
        }
        JamSongs x = Twins.story();
        Due.is("one CANNOT, and one is BAD", x.bar(7, 0, 8), BAD);
        Due.is("all CAN", x.bar(0, 1, 7), 17);
        Due.is("all CAN again", x.bar(0, 5, 3), 17);
    }

    private static void windowTakes() {
        Due.says("Promise 10", "A PAN HEARS a SINGER (1), or does not (0): 1.");
        JamSongs x = Due.kitchen("j1;" + SINGER + SINGER + SINGER + "p1,9,0;p1,9,0;p1,9,0;p1,9,0;p1,1,7;");
        for (int s = 0; s < 3; s++) {
            Due.is("window(0, " + s + ", 1)", x.window(0, s, 1), 1);
            Due.is("HEARS", x.pan(0, 2), (2 << s) - 1);
            Due.is("window(4, " + s + ", 0)", x.window(4, s, 0), 1);
            Due.is("HEARS not", x.pan(4, 2), 7 & ~((2 << s) - 1));
        }
        Due.is("the others", x.pan(1, 2) + x.pan(2, 2) + x.pan(3, 2), 0);
        x.window(4, 0, 1);
        x.bar(0, 7, 7);
        Due.is("a PAN that is SET", x.window(4, 0, 0), 1);
        Due.is("no BAR goes by", x.count(3), 1);
        Due.is("it stays SET", x.count(5), 16);
    }

    private static void windowRefuses() {
        Due.says("Promise 10", "BAD;");
        JamSongs x = Due.kitchen("j1;" + SINGER + "p1,9,0;");
        int[][] bad = {{-1, 0, 1}, {1, 0, 1}, {0, -1, 1}, {0, 1, 1}, {0, 0, -1}, {0, 0, 2}};
        for (int[] b : bad) {
            Due.is("window(" + b[0] + ", " + b[1] + ", " + b[2] + ")", x.window(b[0], b[1], b[2]), BAD);
        }
        Due.is("window(0, 0, 1)", x.window(0, 0, 1), 1);
        int[][] badOfFive = {{5, 0, 1}, {-1, 0, 1}, {0, 3, 1}, {0, -1, 1}, {0, 1, 2}, {0, 1, -1}};
        for (int[] b : badOfFive) {
            Twins.refuses("window(" + b[0] + ", " + b[1] + ", " + b[2] + ")", BAD, y -> y.window(b[0], b[1], b[2]));
        }
        JamSongs none = Due.kitchen("j1;p1,9,0;");
        Due.is("no SINGER", none.window(0, 0, 1), BAD);
        JamSongs bare = new JamSongs();
        Due.is("no KITCHEN", bare.window(0, 0, 0), BAD);
    }

    private static void windowIsSo() {
        Due.says("Promise 10", "STATE: it is so.");
        JamSongs x = Due.kitchen("j1;" + SINGER + SINGER + "p1,9,1;");
        Due.is("it is open", x.window(0, 0, 1), STATE);
        Due.is("it is shut", x.window(0, 1, 0), STATE);
        Due.is("no ACTS", x.count(6), 0);
        Due.is("shut", x.window(0, 0, 0), 1);
        Due.is("it is shut now", x.window(0, 0, 0), STATE);
        Due.is("opened", x.window(0, 0, 1), 1);
        Due.is("it is open again", x.window(0, 0, 1), STATE);
        x.undo();
        Due.is("it is shut again", x.window(0, 0, 0), STATE);
        Due.is("one ACT", x.count(6), 1);
        Twins.refuses("window(1, 1, 1)", STATE, y -> y.window(1, 1, 1));
        Twins.refuses("window(4, 1, 0)", STATE, y -> y.window(4, 1, 0));
    }

    private static void undoTakes() {
        Due.says("Promise 11", "The latest ACT is undone: how many can be undone yet.");
        JamSongs x = Due.kitchen("j2;s0,6,9;s0,6,1;p1,2,3;c1,9,1;q127,9,2;m1,9,1;d1,2,1;");
        x.bar(0, 2, 7);
        x.bar(0, 7, 7);
        x.bar(7, 0, 7);
        Due.is("two are SET", x.bar(7, 7, 7), 17);
        int[][] due = {{3, 2, 2, 0, 1, 0, 0, 1}, {2, 1, 2, 0, 0, NONE, 2, 0}, {1, 0, 1, 0, 0, 2, 1, 1}};
        for (int k = 0; k < due.length; k++) {
            Due.is("undo()", x.undo(), due.length - k);
            int[] got = {x.count(3), x.pan(0, 3), x.pan(1, 3), x.pan(2, 3), x.pan(4, 3), x.pan(2, 5), x.singer(0, 3),
                x.singer(1, 3)};
            for (int w = 0; w < got.length; w++) {
                Due.is("BAR " + due[k][0] + ", number " + w, got[w], due[k][w]);
            }
        }
        Due.is("the last", x.undo(), 0);
        Due.is("BAR 0", x.count(3), 0);
    }

    private static void undoRefuses() {
        Due.says("Promise 11", "STATE: none.");
        JamSongs x = new JamSongs();
        Due.is("no KITCHEN", x.undo(), STATE);
        Due.read(x, "j1;" + SINGER + "p1,9,1;");
        Due.is("no ACT", x.undo(), STATE);
        x.bar(0, 7, 7);
        x.image(0);
        Due.is("one", x.undo(), 0);
        Due.is("none", x.undo(), STATE);
        Due.is("none again", x.undo(), STATE);
        Due.is("ACTS", x.count(6), 0);
        Due.is("BAR 0", x.count(3), 0);
        x.bar(8, 7, 7);
        x.window(0, 0, 1);
        Due.is("what was refused is no ACT", x.undo(), STATE);
        x.bar(0, 7, 7);
        x.restore(0);
        Due.is("none behind restore", x.undo(), STATE);
        x.bar(0, 7, 7);
        Due.read(x, "j0;");
        Due.is("a FAULT leaves the ACTS", x.undo(), 0);
        x.bar(0, 7, 7);
        Due.read(x, "j1;");
        Due.is("none behind another KITCHEN", x.undo(), STATE);
    }

    private static void panTells() {
        Due.says("Promise 12", "Of a PAN: 0 MODE, 1 NEEDS, 2 HEARS (bits), 3 how THICK, 4 whether SET (1, 0),");
        JamSongs x = Due.kitchen("j1;s0,6,9;s0,6,9;s0,6,9;p0,1,0;p127,20,7;d5,1,4;");
        int[][] due = {{0, 1, 0, 0, 0}, {127, 20, 7, 0, 0}, {5, 1, 4, 0, 0}};
        for (int p = 0; p < 3; p++) {
            for (int what = 0; what < 5; what++) {
                Due.is("pan(" + p + ", " + what + ")", x.pan(p, what), due[p][what]);
            }
        }
        x.bar(6, 7, 7);
        Due.is("how THICK", x.pan(1, 3), 1);
        Due.is("not SET", x.pan(1, 4), 0);
        Due.is("how THICK, SET", x.pan(2, 3), 1);
        Due.is("SET", x.pan(2, 4), 1);
    }

    private static void panTellsWhatItHeard() {
        Due.says("Promise 12", "5 the least NOTE it heard in the BAR before (NONE: none, or it is SET).");
        JamSongs x = Due.kitchen("j1;" + SINGER + SINGER + SINGER + "p127,3,7;m0,9,6;d0,9,1;");
        Due.is("ahead of every BAR", x.pan(0, 5), NONE);
        x.bar(6, 5, 4);
        Due.is("the least of three", x.pan(0, 5), 4);
        Due.is("a marrow", x.pan(1, 5), 4);
        Due.is("damsons", x.pan(2, 5), 6);
        x.bar(0, 6, 7);
        Due.is("NOTE 0", x.pan(0, 5), 0);
        Due.is("NOTE 6", x.pan(1, 5), 6);
        x.bar(7, 7, 7);
        Due.is("none", x.pan(0, 5), NONE);
        x.bar(0, 7, 7);
        Due.is("SET by it", x.pan(0, 5), NONE);
        Due.is("those it does not hear", x.pan(1, 5), NONE);
        x.bar(1, 1, 1);
        Due.is("SET ahead of it", x.pan(0, 5), NONE);
        x.undo();
        x.undo();
        Due.is("not SET, none", x.pan(0, 5), NONE);
        x.undo();
        Due.is("not SET, NOTE 0", x.pan(0, 5), 0);
    }

    private static void panRefuses() {
        Due.says("Promise 12", "BAD.");
        JamSongs x = Due.kitchen("j1;" + "p1,9,0;".repeat(5));
        for (int what = 0; what < 6; what++) {
            Due.is("pan(-1, " + what + ")", x.pan(-1, what), BAD);
            Due.is("pan(0, " + what + ")", x.pan(0, what) == BAD ? 1 : 0, 0);
            Due.is("pan(4, " + what + ")", x.pan(4, what) == BAD ? 1 : 0, 0);
            Due.is("pan(5, " + what + ")", x.pan(5, what), BAD);
        }
        Due.is("pan(0, -1)", x.pan(0, -1), BAD);
        Due.is("pan(0, 6)", x.pan(0, 6), BAD);
        Due.read(x, "j1;p1,9,0;");
        Due.is("pan(0, 1)", x.pan(0, 1), 9);
        Due.is("pan(1, 1) of one that is gone", x.pan(1, 1), BAD);
    }

    private static void singerTells() {
        Due.says("Promise 13", "Of a SINGER: 0 LOW, 1 HIGH, 2 BREATH, 3 in how many BARS one behind another it has sung "
            + "(0: it rested).");
        JamSongs x = Due.kitchen("j1;s0,6,9;s3,3,1;s6,6,2;");
        int[][] due = {{0, 6, 9, 0}, {3, 3, 1, 0}, {6, 6, 2, 0}};
        for (int s = 0; s < 3; s++) {
            for (int what = 0; what < 4; what++) {
                Due.is("singer(" + s + ", " + what + ")", x.singer(s, what), due[s][what]);
            }
        }
        int[][] bars = {{0, 3, 6}, {0, 7, 6}, {7, 3, 7}, {0, 7, 6}};
        int[][] sung = {{1, 1, 1}, {2, 0, 2}, {0, 1, 0}, {1, 0, 1}};
        for (int k = 0; k < bars.length; k++) {
            x.bar(bars[k][0], bars[k][1], bars[k][2]);
            for (int s = 0; s < 3; s++) {
                Due.is("sung by " + s + " behind BAR " + k, x.singer(s, 3), sung[k][s]);
            }
        }
        for (int k = 2; k >= 0; k--) {
            x.undo();
            for (int s = 0; s < 3; s++) {
                Due.is("sung by " + s + " behind BAR " + k + ", undone", x.singer(s, 3), sung[k][s]);
            }
        }
    }

    private static void singerRefuses() {
        Due.says("Promise 13", "BAD.");
        JamSongs x = Due.kitchen("j1;" + SINGER + SINGER + SINGER);
        for (int what = 0; what < 4; what++) {
            Due.is("singer(-1, " + what + ")", x.singer(-1, what), BAD);
            Due.is("singer(0, " + what + ")", x.singer(0, what) == BAD ? 1 : 0, 0);
            Due.is("singer(2, " + what + ")", x.singer(2, what) == BAD ? 1 : 0, 0);
            Due.is("singer(3, " + what + ")", x.singer(3, what), BAD);
        }
        Due.is("singer(0, -1)", x.singer(0, -1), BAD);
        Due.is("singer(0, 4)", x.singer(0, 4), BAD);
        Due.read(x, "j1;" + SINGER);
        Due.is("singer(0, 1)", x.singer(0, 1), 6);
        Due.is("singer(1, 1) of one that is gone", x.singer(1, 1), BAD);
    }

    private static void imageKeeps() {
        Due.says("Promise 21", "An IMAGE (0, 1) is kept of the KITCHEN: 1.");
        JamSongs x = Due.kitchen("j1;" + SINGER + "p1,2,1;");
        Due.is("image(0)", x.image(0), 1);
        x.bar(0, 7, 7);
        Due.is("image(1)", x.image(1), 1);
        Due.is("it is no ACT, and ACTS stay", x.count(6), 1);
        x.bar(0, 7, 7);
        Due.is("it changes not by a BAR", x.restore(1), 1);
        Due.is("BAR 1", x.count(3), 1);
        Due.is("THICK 1", x.pan(0, 3), 1);
        Due.is("heard", x.pan(0, 5), 0);
        Due.is("the other", x.restore(0), 1);
        Due.is("BAR 0", x.count(3), 0);
        Due.rest(x, 3);
        Due.is("image(0) in place of the one before", x.image(0), 1);
        x.restore(1);
        x.restore(0);
        Due.is("BAR 3", x.count(3), 3);
        Twins.changesOnlyRestored("image(1)", y -> y.image(1));
    }

    private static void imageRefuses() {
        Due.says("Promise 21", "BAD; STATE: no KITCHEN.");
        JamSongs x = new JamSongs();
        Due.is("image(-1)", x.image(-1), BAD);
        Due.is("image(0)", x.image(0), STATE);
        Due.is("image(1)", x.image(1), STATE);
        Due.is("image(2)", x.image(2), BAD);
        Due.is("none was kept", x.restore(0), STATE);
        Due.read(x, "j1;");
        Due.is("image(-1) of a KITCHEN", x.image(-1), BAD);
        Due.is("image(2) of a KITCHEN", x.image(2), BAD);
        Due.is("image(1) of a KITCHEN", x.image(1), 1);
        Due.is("none was kept as 0", x.restore(0), STATE);
        Due.is("one was kept as 1", x.restore(1), 1);
    }

    private static void restoreBrings() {
        Due.says("Promise 22", "The KITCHEN is as an IMAGE kept it (no ACT can be undone then): 1.");
        JamSongs x = Twins.story();
        Due.is("restore(0)", x.restore(0), 1);
        Due.is("BAR", x.count(3), 2);
        Due.is("SET", x.count(5), 0);
        Due.is("ACTS", x.count(6), 0);
        Due.is("undo()", x.undo(), STATE);
        int[] thick = {2, 2, 1, 0, 1};
        int[] heard = {2, 2, 2, 2, NONE};
        for (int p = 0; p < 5; p++) {
            Due.is("THICK of " + p, x.pan(p, 3), thick[p]);
            Due.is("heard by " + p, x.pan(p, 5), heard[p]);
        }
        int[] sung = {2, 2, 0};
        for (int s = 0; s < 3; s++) {
            Due.is("sung by " + s, x.singer(s, 3), sung[s]);
        }
        Due.is("ROWS stay", x.count(0), 5);
        Due.is("the tape stays", x.count(7), 2);
        Due.is("THE TRACE stays", x.trace(0), 12);
        Due.is("fault() stays", x.fault(), 2);
        Due.is("status() stays", x.status(), 1);
        Due.is("one more ACT", x.bar(4, 7, 7), 17);
        Due.is("it can be undone", x.undo(), 0);
        Due.is("no other", x.undo(), STATE);
    }

    private static void restoreBringsWindows() {
        Due.says("Promise 22", "The KITCHEN is as an IMAGE kept it");
        JamSongs x = Twins.story();
        x.kitchen();
        Due.read(x, "j5;s3,4,2;m9,9,1;");
        Due.is("image(1)", x.image(1), 1);
        Due.is("restore(0)", x.restore(0), 1);
        int[][] pans = {{21, 3, 1, 1}, {31, 6, 3, 2}, {127, 9, 3, 3}, {127, 5, 7, 4}, {0, 2, 4, 5}};
        for (int p = 0; p < 5; p++) {
            for (int what = 0; what < 3; what++) {
                Due.is("pan(" + p + ", " + what + ")", x.pan(p, what), pans[p][what]);
            }
            Due.is("kind(" + p + ")", x.kind(p), pans[p][3]);
        }
        int[][] singers = {{0, 6, 9}, {1, 5, 2}, {3, 3, 1}};
        for (int s = 0; s < 3; s++) {
            for (int what = 0; what < 3; what++) {
                Due.is("singer(" + s + ", " + what + ")", x.singer(s, what), singers[s][what]);
            }
        }
        Due.is("BACK", x.count(4), 2);
        Due.is("restore(1)", x.restore(1), 1);
        Due.is("BACK of the other", x.count(4), 5);
        Due.is("its PANS", x.count(2), 1);
        Due.is("its SINGERS", x.count(1), 1);
        Due.is("its BAR", x.count(3), 0);
    }

    private static void restoreRefuses() {
        Due.says("Promise 22", "BAD; STATE: none was kept.");
        JamSongs x = new JamSongs();
        int[] due = {BAD, STATE, STATE, BAD};
        for (int k = -1; k <= 2; k++) {
            Due.is("restore(" + k + ")", x.restore(k), due[k + 1]);
        }
        Due.read(x, "j1;");
        x.bar(7, 7, 7);
        for (int k = -1; k <= 2; k++) {
            Due.is("restore(" + k + ") of a KITCHEN", x.restore(k), due[k + 1]);
        }
        Due.is("ACTS stay", x.count(6), 1);
        x.image(0);
        Due.is("restore(0)", x.restore(0), 1);
        Due.is("restore(1)", x.restore(1), STATE);
        x.image(1);
        Due.is("restore(1) that was kept", x.restore(1), 1);
        Due.is("restore(2)", x.restore(2), BAD);
    }
}
