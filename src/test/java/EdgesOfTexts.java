/** The edges of promises 6 to 8, and of what 'Terms' says of TEXTS and FAULTS. */
final class EdgesOfTexts {
    private static final int BAD = JamSongs.BAD, STATE = JamSongs.STATE, FULL = JamSongs.FULL, NONE = JamSongs.NONE;
    private static final String TERMS = "Terms", SINGER = "s0,6,9;", PAN = "p1,1,0;";
    private static final String THREE = SINGER + SINGER + SINGER, FIVE = PAN + PAN + PAN + PAN + PAN;

    private EdgesOfTexts() { }

    static void all() {
        theTape();
        letters();
        numbers();
        signs();
        kitchens();
        laws();
        singers();
        notesOfSingers();
        pans();
        numbersOfPans();
        hears();
        inPlaceOfTheOneBefore();
        firstFault();
        faultOne();
        faultAtTheEnd();
        faultTwo();
        faultThree();
        feedTakes();
        feedRefuses();
        kitchenTakes();
        kitchenLeaves();
        kitchenFaultLeavesAll();
        faultTells();
    }

    private static void reads(String text, int due) {
        JamSongs x = new JamSongs();
        Due.is(text, Due.read(x, text), due);
        Due.is(text + ": PANS", x.count(2), due);
        Due.is(text + ": fault()", x.fault(), 0);
        Due.is(text + ": the tape", x.count(7), 0);
    }

    private static void fails(String text, int place, int fault) {
        JamSongs x = new JamSongs();
        Due.is(text, Due.read(x, text), -1000100 - place);
        Due.is(text + ": fault()", x.fault(), fault);
        Due.is(text + ": the tape", x.count(7), 0);
        Due.is(text + ": no KITCHEN", x.bar(7, 7, 7), STATE);
    }

    private static void theTape() {
        Due.says(TERMS, "TEXTS: THE TAPE has at most 120 bytes, that come one by one;");
        JamSongs x = new JamSongs();
        for (int k = 1; k <= 120; k++) {
            Due.is("feed " + k, x.feed(k == 1 ? 'j' : k == 2 ? '1' : ';'), k);
            Due.is("bytes", x.count(7), k);
        }
        Due.is("feed 121", x.feed(';'), FULL);
        Due.is("bytes", x.count(7), 120);
        Due.is("the first byte is yet there: the fault is behind it", x.kitchen(), -1000103);
        Due.is("bytes", x.count(7), 0);
        Due.is("feed again", x.feed('j'), 1);
    }

    private static void letters() {
        Due.says(TERMS, "TOKENS: letters a to z (each by itself),");
        fails("a", 0, 1);
        fails("z", 0, 1);
        fails("" + (char) ('a' - 1), 0, 1);
        fails("" + (char) ('z' + 1), 0, 1);
        fails("J1;", 0, 1);
        fails("j1;S0,6,9;", 3, 1);
        fails("jj1;", 1, 1);
        fails("j1;ss0,6,9;", 4, 1);
        fails("j1;pp1,1,0;", 4, 1);
        fails("j1;pc1,1,0;", 4, 1);
        for (char c = 'a'; c <= 'z'; c++) {
            if ("pcqmd".indexOf(c) >= 0) {
                reads("j1;" + c + "1,1,0;", 1);
            } else {
                fails("j1;" + c + "1,1,0;", c == 's' ? 8 : 3, c == 's' ? 2 : 1);
            }
        }
    }

    private static void numbers() {
        Due.says(TERMS, "NUMBERS (figures, 3 at most; a run of four or more is none, at its first),");
        reads("j1;", 0);
        reads("j01;", 0);
        reads("j001;", 0);
        fails("j0001;", 1, 1);
        fails("j00001;", 1, 1);
        fails("j1000;", 1, 1);
        fails("j4294967297;", 1, 1);
        fails("j18446744073709551617;", 1, 1);
        fails("j" + "0".repeat(118) + "1", 1, 1);
        reads("j009;s000,006,009;p127,020,001;", 1);
        fails("j1;s0000,6,9;", 4, 1);
        fails("j1;s0,0006,9;", 6, 1);
        fails("j1;s0,6,0009;", 8, 1);
        fails("j1;p0127,1,0;", 4, 1);
        fails("j1;p127,0001,0;", 8, 1);
        fails("j1;p127,1,0000;", 10, 1);
        fails("j/;", 1, 1);
        fails("j:;", 1, 1);
        fails("j1/;", 2, 1);
        fails("j1:;", 2, 1);
        fails("j0;", 1, 2);
        fails("j999;", 1, 2);
    }

    private static void signs() {
        Due.says(TERMS, "SIGNS , and ; nothing else, no blanks.");
        fails("j 1;", 1, 1);
        fails(" j1;", 0, 1);
        fails("j1 ;", 2, 1);
        fails("j1; ", 3, 1);
        fails("j1;\n", 3, 1);
        fails("j1;s0,6, 9;", 8, 1);
        fails("j1.", 2, 1);
        fails("j1:", 2, 1);
        fails("j+1;", 1, 1);
        fails("j1;s-1,6,9;", 4, 1);
        for (int c : new int[] {0, 1, '+', '-', '<', ':', 127, 128, 255}) {
            fails("j1;" + (char) c, 3, 1);
        }
    }

    private static void kitchens() {
        Due.says(TERMS, "kitchen: law { singer } { pan }.");
        reads("j1;", 0);
        reads("j1;" + SINGER, 0);
        reads("j1;" + PAN, 1);
        reads("j1;" + SINGER + PAN, 1);
        reads("j1;" + THREE + FIVE, 5);
        fails("", 0, 1);
        fails(SINGER, 0, 1);
        fails(PAN, 0, 1);
        fails("j1;j1;", 3, 1);
        fails("j1;" + SINGER + "j1;", 10, 1);
        fails("j1;" + PAN + "j1;", 10, 1);
        fails("j1;" + PAN + SINGER, 10, 1);
        fails("j1;" + SINGER + PAN + SINGER + PAN, 17, 1);
        fails("j1;;", 3, 1);
        fails("j1;,", 3, 1);
        fails("j1;1", 3, 1);
    }

    private static void laws() {
        Due.says(TERMS, "law: j BACK ; (1 to 9).");
        fails("j0;", 1, 2);
        Due.is("BACK 1", Due.kitchen("j1;").count(4), 1);
        Due.is("BACK 9", Due.kitchen("j9;").count(4), 9);
        fails("j10;", 1, 2);
        fails("j;", 1, 1);
        fails("j1,", 2, 1);
        fails("j1", 2, 1);
        fails("j1j", 2, 1);
    }

    private static void singers() {
        Due.says(TERMS, "singer: s LOW , HIGH , BREATH ;");
        Due.says(TERMS, "SINGERS 0 .. 2, 3 at most).");
        Due.is("no SINGERS", Due.kitchen("j1;").count(1), 0);
        Due.is("one", Due.kitchen("j1;" + SINGER).count(1), 1);
        Due.is("two", Due.kitchen("j1;" + SINGER + SINGER).count(1), 2);
        JamSongs x = Due.kitchen("j1;s0,6,9;s1,5,8;s2,4,7;");
        Due.is("three", x.count(1), 3);
        for (int s = 0; s < 3; s++) {
            Due.is("LOW of " + s, x.singer(s, 0), s);
            Due.is("HIGH of " + s, x.singer(s, 1), 6 - s);
            Due.is("BREATH of " + s, x.singer(s, 2), 9 - s);
        }
        Due.is("no SINGER 3", x.singer(3, 0), BAD);
        fails("j1;" + THREE + SINGER, 24, 3);
    }

    private static void notesOfSingers() {
        Due.says(TERMS, "(NOTES 0 to 6; LOW to 6; 1 to 9;");
        reads("j1;s0,0,1;", 0);
        reads("j1;s6,6,1;", 0);
        fails("j1;s7,7,1;", 4, 2);
        fails("j1;s7,6,1;", 4, 2);
        reads("j1;s3,3,1;", 0);
        fails("j1;s3,2,1;", 6, 2);
        fails("j1;s1,0,1;", 6, 2);
        reads("j1;s0,6,1;", 0);
        fails("j1;s0,7,1;", 6, 2);
        fails("j1;s6,7,1;", 6, 2);
        fails("j1;s0,6,0;", 8, 2);
        reads("j1;s0,6,9;", 0);
        fails("j1;s0,6,10;", 8, 2);
        fails("j1;s0,6,999;", 8, 2);
        Due.is("LOW of the second is told anew", Due.read(new JamSongs(), "j1;s5,6,1;s0,1,1;"), 0);
    }

    private static void pans() {
        Due.says(TERMS, "pan: SORT MODE , NEEDS , HEARS ; (SORT: p plums, c cherries, q quinces, m a marrow, d damsons;");
        Due.says(TERMS, "PANS 0 .. 4, 5 at most).");
        JamSongs x = Due.kitchen("j1;" + THREE + "p0,1,0;c1,2,1;q2,3,2;m3,4,3;d4,5,4;");
        Due.is("PANS", x.count(2), 5);
        for (int p = 0; p < 5; p++) {
            Due.is("MODE of " + p, x.pan(p, 0), p);
            Due.is("NEEDS of " + p, x.pan(p, 1), p + 1);
            Due.is("HEARS of " + p, x.pan(p, 2), p);
            Due.is("the SORT of " + p, x.kind(p), p + 1);
        }
        Due.is("no PAN 5", x.pan(5, 0), BAD);
        Due.is("no PANS", Due.kitchen("j1;" + SINGER).count(2), 0);
        reads("j1;" + FIVE, 5);
        fails("j1;" + FIVE + PAN, 38, 3);
        fails("j1;p;", 4, 1);
        fails("j1;p1;1,0;", 5, 1);
        fails("j1;p1,1;0;", 7, 1);
        fails("j1;p1,1,0,", 9, 1);
    }

    private static void numbersOfPans() {
        Due.says(TERMS, "a set of NOTES, 0 to 127; 1 to 20;");
        reads("j1;p0,1,0;", 1);
        reads("j1;p127,1,0;", 1);
        fails("j1;p128,1,0;", 4, 2);
        fails("j1;p999,1,0;", 4, 2);
        fails("j1;p1,0,0;", 6, 2);
        reads("j1;p1,1,0;", 1);
        reads("j1;p1,20,0;", 1);
        fails("j1;p1,21,0;", 6, 2);
        fails("j1;d1,0,0;", 6, 2);
        fails("j1;m128,20,0;", 4, 2);
    }

    private static void hears() {
        Due.says(TERMS, "SINGERS told, as bits;");
        String text = "j1;";
        for (int singers = 0; singers < 4; singers++) {
            int all = (1 << singers) - 1;
            reads(text + "p1,1,0;", 1);
            reads(text + "p1,1," + all + ";", 1);
            fails(text + "p1,1," + (all + 1) + ";", text.length() + 5, 2);
            text = text + SINGER;
        }
        Due.is("HEARS all", Due.kitchen("j1;" + THREE + "p1,1,7;").pan(0, 2), 7);
    }

    private static void inPlaceOfTheOneBefore() {
        Due.says(TERMS, "A KITCHEN that is read stands in place of the one before (none at first): BAR 0, nothing has "
            + "thickened, nothing is SET, nobody has sung; no ACT can be undone; IMAGES and ROWS stay.");
        JamSongs x = Twins.story();
        Due.is("some are SET", x.count(5), 17);
        Due.is("foretold ahead of it", x.round(0, 0, 0, 1), 17);
        x.kitchen();
        Due.is("the same text", Due.read(x, Twins.TEXT), 5);
        Due.is("BAR", x.count(3), 0);
        Due.is("SET", x.count(5), 0);
        Due.is("ACTS", x.count(6), 0);
        Due.is("undo()", x.undo(), STATE);
        for (int p = 0; p < 5; p++) {
            Due.is("THICK of " + p, x.pan(p, 3), 0);
            Due.is("SET of " + p, x.pan(p, 4), 0);
            Due.is("heard by " + p, x.pan(p, 5), NONE);
        }
        for (int s = 0; s < 3; s++) {
            Due.is("sung by " + s, x.singer(s, 3), 0);
        }
        Due.is("HEARS as told", x.pan(2, 2), 1);
        Due.is("ROWS", x.count(0), 5);
        Due.is("one has breath again", x.bar(7, 7, 3), 0);
        Due.is("a KITCHEN of nothing", Due.read(x, "j9;"), 0);
        Due.is("SINGERS", x.count(1), 0);
        Due.is("PANS", x.count(2), 0);
        Due.is("BACK", x.count(4), 9);
        Due.is("IMAGE 0", x.restore(0), 1);
        Due.is("its PANS", x.count(2), 5);
        Due.is("its BAR", x.count(3), 2);
        Due.is("ROW 0", x.drop(0), 8);
    }

    private static void firstFault() {
        Due.says(TERMS, "FAULTS, the first TOKEN that has one (its first byte), of one TOKEN the least:");
        fails("j0;j0;", 1, 2);
        fails("j0,", 1, 2);
        fails("j10", 1, 2);
        fails("j1;s7,8,0;", 4, 2);
        fails("j1;s0,8,0;", 6, 2);
        fails("j1;s0,6,0,", 8, 2);
        fails("j1;p128,0,1;", 4, 2);
        fails("j1;p127,021,1;", 8, 2);
        fails("j1;999", 3, 1);
        fails("j1;s0,6;9;", 7, 1);
        fails("j1;" + THREE + "s9,9,9;", 24, 3);
        fails("j1;" + THREE + PAN + SINGER, 31, 1);
        fails("j1;" + FIVE + SINGER, 38, 1);
        fails("j1;" + FIVE + "p999", 38, 3);
        fails("x" + "j0;", 0, 1);
    }

    private static void faultOne() {
        Due.says(TERMS, "1 it cannot stand there, or is none");
        fails("1", 0, 1);
        fails(",", 0, 1);
        fails(";", 0, 1);
        fails("jj", 1, 1);
        fails("j,", 1, 1);
        fails("j1,", 2, 1);
        fails("j1;s;", 4, 1);
        fails("j1;s1;", 5, 1);
        fails("j1;s1,;", 6, 1);
        fails("j1;s1,1;", 7, 1);
        fails("j1;s1,1,;", 8, 1);
        fails("j1;s1,1,1,", 9, 1);
        fails("j1;s1,1,1p", 9, 1);
        fails("j1;s1,1,1;,", 10, 1);
        fails("j1;p1,1,0;;", 10, 1);
        fails("j1;p1,1,0;a", 10, 1);
        fails("j1;p1,1,0;0", 10, 1);
        fails("j1;p1,1,0;" + (char) 255, 10, 1);
    }

    private static void faultAtTheEnd() {
        Due.says(TERMS, "(the end: how many bytes there are);");
        String whole = "j1;s0,6,9;p127,20,1;";
        for (int n = 0; n < whole.length(); n++) {
            String cut = whole.substring(0, n);
            if (cut.equals("j1;") || cut.equals("j1;s0,6,9;")) {
                reads(cut, 0);
            } else {
                fails(cut, n, 1);
            }
        }
        reads(whole, 1);
        String longest = "j009;" + "s000,006,009;".repeat(3) + "p127,020,007;".repeat(5);
        reads(longest, 5);
        fails(longest.substring(0, 108), 108, 1);
        fails(longest + "p", 109, 3);
    }

    private static void faultTwo() {
        Due.says(TERMS, "2 a NUMBER that is not as told;");
        fails("j0", 1, 2);
        fails("j00;", 1, 2);
        fails("j000;", 1, 2);
        fails("j010;", 1, 2);
        fails("j1;s07,7,1;", 4, 2);
        fails("j1;s005,004,1;", 8, 2);
        fails("j1;s0,0,00;", 8, 2);
        fails("j1;" + SINGER + "p1,1,2;", 15, 2);
        fails("j1;" + PAN + "p1,1,1;", 15, 2);
    }

    private static void faultThree() {
        Due.says(TERMS, "3 a singer, a pan more than there is room for (its letter).");
        reads("j1;" + THREE, 0);
        fails("j1;" + THREE + "s", 24, 3);
        fails("j1;" + THREE + "ss", 24, 3);
        fails("j1;" + THREE + "s1234", 24, 3);
        reads("j1;" + FIVE, 5);
        for (char sort : "pcqmd".toCharArray()) {
            fails("j1;" + FIVE + sort, 38, 3);
        }
        fails("j1;" + FIVE + "a", 38, 1);
        fails("j1;" + THREE + FIVE + "p", 59, 3);
        fails("j1;" + THREE + "t", 24, 1);
    }

    private static void feedTakes() {
        Due.says("Promise 6", "A byte (0 to 255) comes behind the tape: how many it has.");
        JamSongs x = new JamSongs();
        Due.is("feed(-1)", x.feed(-1), BAD);
        Due.is("feed(0)", x.feed(0), 1);
        Due.is("feed(255)", x.feed(255), 2);
        Due.is("feed(256)", x.feed(256), BAD);
        Due.is("bytes", x.count(7), 2);
        JamSongs y = new JamSongs();
        Due.feed(y, "j1");
        Due.is("BAD comes not behind it", y.feed(256 + ';'), BAD);
        Due.is("behind the tape", y.feed(';'), 3);
        Due.is("read", y.kitchen(), 0);
    }

    private static void feedRefuses() {
        Due.says("Promise 6", "BAD; FULL.");
        JamSongs x = new JamSongs();
        x.drop(0);
        for (int k = 1; k <= 119; k++) {
            x.feed(k == 1 ? 'j' : '1');
        }
        Due.is("feed 120", x.feed('1'), 120);
        Due.is("feed 121", x.feed('1'), FULL);
        Due.is("feed 122", x.feed('1'), FULL);
        Due.is("BAD ahead of FULL, below", x.feed(-1), BAD);
        Due.is("BAD ahead of FULL, above", x.feed(256), BAD);
        Due.is("status()", x.status(), 1);
        Due.is("bytes", x.count(7), 120);
        Due.is("a run of 119 figures", x.kitchen(), -1000101);
        Due.is("feed 1", x.feed('j'), 1);
        Due.is("feed 2", x.feed('1'), 2);
        Due.is("feed 3", x.feed(';'), 3);
        Due.is("nothing of the full tape is left", x.kitchen(), 0);
    }

    private static void kitchenTakes() {
        Due.says("Promise 7", "The tape, empty then, is read: how many PANS there are.");
        JamSongs x = new JamSongs();
        for (int pans = 0; pans <= 5; pans++) {
            Due.is(pans + " PANS", Due.read(x, "j1;" + SINGER + PAN.repeat(pans)), pans);
            Due.is("the tape is empty", x.count(7), 0);
            Due.is("count(2)", x.count(2), pans);
        }
        Due.is("what was read is not read again", x.kitchen(), -1000100);
        Due.is("the KITCHEN stays", x.count(2), 5);
    }

    private static void kitchenLeaves() {
        Due.says("Promise 7", "-1000100 less the place of a FAULT:");
        JamSongs x = new JamSongs();
        Due.is("place 0, the empty tape", x.kitchen(), -1000100);
        Due.is("place 0", Due.read(x, "J"), -1000100);
        Due.is("place 1", Due.read(x, "j"), -1000101);
        Due.is("place 109", Due.read(x, "j009;" + "s000,006,009;".repeat(3) + "p127,020,007;".repeat(5) + "?"), -1000209);
        Due.is("fault 1", x.fault(), 1);
    }

    private static void kitchenFaultLeavesAll() {
        Due.says("Promise 7", "all but the tape, that is empty then, and what fault() tells stays.");
        String[] texts = {"", "1", "2;s0,6,9;s0,6,9;p1,1,1;x", ";s0,6,9;p1,1,2;", ";" + THREE + SINGER};
        int[] answers = {-1000102, -1000101, -1000101, -1000115, -1000124};
        int[] faults = {1, 2, 2, 2, 3};
        for (int k = 0; k < texts.length; k++) {
            JamSongs x = Twins.story();
            Due.feed(x, texts[k]);
            Due.is("j1" + texts[k], x.kitchen(), answers[k]);
            Due.is("fault()", x.fault(), faults[k]);
            Due.is("the tape", x.count(7), 0);
            Due.is("status()", x.status(), 1);
        }
        // the story's tape is j1, its latest fault 2: by "1" behind it both are so again
        Twins.changesNothing("j11 with its fault, and j1 fed again", false, x -> {
            x.feed('1');
            int answer = x.kitchen();
            Due.feed(x, "j1");
            return answer;
        });
        Twins.changesNothing("a whole text with a fault at its end, and j1 fed again", false, x -> {
            Due.feed(x, ";s2,4,1;s2,4,1;q1,1,1;d1,1,3;p1,0,0;");
            int answer = x.kitchen();
            Due.feed(x, "j1");
            return answer;
        });
    }

    private static void faultTells() {
        Due.says("Promise 8", "The number of the latest FAULT; 0 before one.");
        JamSongs x = new JamSongs();
        Due.is("before one", x.fault(), 0);
        Due.read(x, "j1;");
        Due.is("a text without one", x.fault(), 0);
        Due.read(x, "j1;" + THREE + "s");
        Due.is("the first", x.fault(), 3);
        Due.read(x, "j0;");
        Due.is("the latest", x.fault(), 2);
        Due.read(x, "j1;");
        Due.is("the latest stays by a text without one", x.fault(), 2);
        x.feed(999);
        x.set(0, 0, 0);
        Due.is("other refusals are none", x.fault(), 2);
        x.kitchen();
        Due.is("the empty tape", x.fault(), 1);
    }
}
