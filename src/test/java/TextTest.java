/** Promises 6 to 8: the tape, the kitchens, the faults. */
public final class TextTest {
    private static final int BAD = JamSongs.BAD;
    private static final String SINGER = "s0,6,9;", PAN = "p1,1,0;";

    public static void main(String[] args) {
        theTape();
        whatIsRead();
        faultsOne();
        faultsTwo();
        faultsThree();
        whatStays();
        nothingIsLeft();
        Due.end("TextTest");
    }

    private static void theTape() {
        JamSongs x = new JamSongs();
        Due.is("feed(-1)", x.feed(-1), BAD);
        Due.is("feed(256)", x.feed(256), BAD);
        for (int i = 0; i < 120; i++) {
            Due.is("feed " + i, x.feed(i % 2 == 0 ? 0 : 255), i + 1);
        }
        Due.is("the tape is full", x.feed(0), JamSongs.FULL);
        Due.is("BAD ahead of FULL", x.feed(256), BAD);
        Due.is("120 bytes", x.count(7), 120);
        Due.is("none of them is a token", x.kitchen(), -1000100);
        Due.is("the tape is empty", x.count(7), 0);
        Due.is("feed again", x.feed(106), 1);
    }

    private static void reads(String text, int due) {
        JamSongs x = new JamSongs();
        Due.is(text, Due.read(x, text), due);
        Due.is(text + " count", x.count(2), due);
        Due.is(text + " leaves no fault", x.fault(), 0);
        Due.is(text + " empties the tape", x.count(7), 0);
    }

    private static void fails(String text, int place, int fault) {
        JamSongs x = new JamSongs();
        Due.is(text, Due.read(x, text), -1000100 - place);
        Due.is("fault of " + text, x.fault(), fault);
        Due.is(text + " empties the tape", x.count(7), 0);
        Due.is(text + " is no kitchen", x.bar(7, 7, 7), JamSongs.STATE);
    }

    private static void whatIsRead() {
        reads("j1;", 0);
        reads("j9;", 0);
        reads("j009;", 0);
        reads("j1;" + PAN, 1);
        reads("j1;" + SINGER + SINGER + SINGER, 0);
        reads("j1;" + PAN + PAN + PAN + PAN + PAN, 5);
        reads("j1;s6,6,1;s000,000,001;" + "p127,20,3;c0,1,0;q1,1,1;m1,1,2;d1,1,003;", 5);
        JamSongs x = Due.kitchen("j7;s1,5,4;s2,2,9;c100,20,2;d0,001,0;");
        Due.is("BACK", x.count(4), 7);
        Due.is("SINGERS", x.count(1), 2);
        Due.is("LOW", x.singer(0, 0), 1);
        Due.is("HIGH", x.singer(0, 1), 5);
        Due.is("BREATH", x.singer(0, 2), 4);
        Due.is("LOW of 1", x.singer(1, 0), 2);
        Due.is("HIGH of 1", x.singer(1, 1), 2);
        Due.is("BREATH of 1", x.singer(1, 2), 9);
        Due.is("MODE", x.pan(0, 0), 100);
        Due.is("NEEDS", x.pan(0, 1), 20);
        Due.is("HEARS", x.pan(0, 2), 2);
        Due.is("MODE of 1", x.pan(1, 0), 0);
        Due.is("NEEDS of 1", x.pan(1, 1), 1);
        Due.is("HEARS of 1", x.pan(1, 2), 0);
        Due.is("cherries", x.kind(0), 2);
        Due.is("damsons", x.kind(1), 5);
    }

    private static void faultsOne() {
        fails("", 0, 1);
        fails("j", 1, 1);
        fails("j1", 2, 1);
        fails("j1,", 2, 1);
        fails("jj", 1, 1);
        fails("j;", 1, 1);
        fails("j 1;", 1, 1);
        fails(" j1;", 0, 1);
        fails("j1; ", 3, 1);
        fails("J1;", 0, 1);
        fails("s0,6,9;", 0, 1);
        fails("j1;j1;", 3, 1);
        fails("j1;1", 3, 1);
        fails("j1;;", 3, 1);
        fails("j1;a", 3, 1);
        fails("j1234;", 1, 1);
        fails("j0001;", 1, 1);
        fails("j10000000000000001;", 1, 1);
        fails("1234", 0, 1);
        fails("j1;s0,6,1111;", 8, 1);
        fails("j1;s0;6,9;", 5, 1);
        fails("j1;s0,6,9,", 9, 1);
        fails("j1;s,6,9;", 4, 1);
        fails("j1;s0,6,9;p1,1;", 14, 1);
        fails("j1;s0,6,9;p1;1,1;", 12, 1);
        fails("j1;s0,6,9;p1,1,1,", 16, 1);
        fails("j1;s0,6,9;p1,1,1", 16, 1);
        fails("j1;" + PAN + SINGER, 10, 1);
        fails("j1;" + SINGER + SINGER + SINGER + PAN + SINGER, 31, 1);
        fails("j1;" + (char) 200, 3, 1);
        fails("j1;s0,6,9;p1,1,1.", 16, 1);
        fails("j1;s-1,6,9;", 4, 1);
    }

    private static void faultsTwo() {
        fails("j0;", 1, 2);
        fails("j10;", 1, 2);
        fails("j999;", 1, 2);
        fails("j0", 1, 2);
        fails("j1;s7,7,1;", 4, 2);
        fails("j1;s3,2,1;", 6, 2);
        fails("j1;s3,7,1;", 6, 2);
        fails("j1;s3,6,0;", 8, 2);
        fails("j1;s3,6,10;", 8, 2);
        fails("j1;" + SINGER + "p128,1,1;", 11, 2);
        fails("j1;" + SINGER + "p127,0,1;", 15, 2);
        fails("j1;" + SINGER + "p127,21,1;", 15, 2);
        fails("j1;" + SINGER + "p127,20,2;", 18, 2);
        fails("j1;p127,20,1;", 11, 2);
        fails("j1;" + SINGER + SINGER + SINGER + "p127,20,8;", 32, 2);
    }

    private static void faultsThree() {
        fails("j1;" + SINGER + SINGER + SINGER + "s", 24, 3);
        fails("j1;" + SINGER + SINGER + SINGER + "s9", 24, 3);
        fails("j1;" + PAN + PAN + PAN + PAN + PAN + "d", 38, 3);
        fails("j1;" + PAN + PAN + PAN + PAN + PAN + "s", 38, 1);
        fails("j1;" + PAN + PAN + PAN + PAN + PAN + "j", 38, 1);
    }

    private static void whatStays() {
        JamSongs x = Due.kitchen("j1;" + SINGER + "p1,2,1;d1,9,0;");
        x.bar(0, 7, 7);
        x.image(0);
        x.row(0, 0, 3);
        Due.is("a text with a fault", Due.read(x, "j2;" + SINGER + PAN + "x"), -1000117);
        Due.is("fault 1", x.fault(), 1);
        Due.is("BACK stays", x.count(4), 1);
        Due.is("PANS stay", x.count(2), 2);
        Due.is("the BAR stays", x.count(3), 1);
        Due.is("THICK stays", x.pan(0, 3), 1);
        Due.is("acts stay", x.count(6), 1);
        Due.is("a fault of another number", Due.read(x, "j0;"), -1000101);
        Due.is("fault 2", x.fault(), 2);
        Due.is("a kitchen that is read", Due.read(x, "j3;" + SINGER + "p1,2,1;"), 1);
        Due.is("the latest fault is told yet", x.fault(), 2);
        Due.is("BAR 0", x.count(3), 0);
        Due.is("nothing has thickened", x.pan(0, 3), 0);
        Due.is("nothing was heard", x.pan(0, 5), JamSongs.NONE);
        Due.is("nobody has sung", x.singer(0, 3), 0);
        Due.is("no act can be undone", x.undo(), JamSongs.STATE);
        Due.is("rows stay", x.count(0), 1);
        Due.is("images stay", x.restore(0), 1);
        Due.is("the kitchen before", x.count(2), 2);
        Due.is("its thickness", x.pan(0, 3), 1);
    }

    /** A kitchen that is read begins anew, whatever was sung, foretold or told before. */
    private static void nothingIsLeft() {
        JamSongs x = Due.kitchen("j1;" + SINGER + SINGER + "p127,1,1;q127,9,1;d0,9,0;");
        Due.tune(x, 0, "024");
        x.bar(1, 7, 7);
        x.alone(0, 0, 0, 3);
        Due.is("one singer, one pan", Due.read(x, "j1;" + SINGER + "q127,2,1;"), 1);
        int[] got = {x.count(1), x.count(2), x.count(3), x.count(5), x.singer(0, 3), x.pan(0, 3), x.pan(0, 5)};
        int[] due = {1, 1, 0, 0, 0, 0, JamSongs.NONE};
        for (int k = 0; k < due.length; k++) {
            Due.is("anew, number " + k, got[k], due[k]);
        }
        x.alone(0, 0, 0, 3);
        Due.is("no singers, no pans", Due.read(x, "j1;"), 0);
        Due.is("SINGERS", x.count(1), 0);
        Due.is("PANS", x.count(2), 0);
        Due.is("no pan 0", x.pan(0, 0), BAD);
        Due.is("no singer 0", x.singer(0, 0), BAD);
    }
}
