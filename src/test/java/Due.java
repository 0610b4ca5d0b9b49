/** What the tests share: answers compared with those that are due, texts fed, tunes written into rows. */
final class Due {
    private static int wrong = 0;
    private static int asked = 0;
    private static String told = "";

    private Due() { }

    /** Names what the next answers are for: a promise, or the Terms, and the sentence that stands there. */
    static void says(String where, String sentence) {
        told = where + ", '" + sentence + "': ";
        if (!Document.name(where, sentence)) {
            is("a sentence that the document does not have", 0, 1);
        }
    }

    static void is(String call, long got, long due) {
        asked++;
        if (got != due) {
            wrong++;
            System.out.println(told + call + " answered " + got + ", due is " + due);
        }
    }

    static void end(String test) {
        System.out.println(test + ": " + asked + " answers, " + wrong + " wrong");
        if (wrong != 0) {
            System.exit(1);
        }
    }

    static void feed(JamSongs x, String text) {
        for (int i = 0; i < text.length(); i++) {
            x.feed(text.charAt(i));
        }
    }

    static int read(JamSongs x, String text) {
        feed(x, text);
        return x.kitchen();
    }

    static JamSongs kitchen(String text) {
        JamSongs x = new JamSongs();
        if (read(x, text) < 0) {
            throw new IllegalArgumentException(text);
        }
        return x;
    }

    /** A row of bytes whose items are the figures of the text. */
    static void tune(JamSongs x, int row, String notes) {
        x.row(row, 0, notes.length());
        for (int i = 0; i < notes.length(); i++) {
            x.set(row, i, notes.charAt(i) - '0');
        }
    }

    /** Bars of the first singer alone. */
    static void sing(JamSongs x, String notes) {
        for (int i = 0; i < notes.length(); i++) {
            x.bar(notes.charAt(i) - '0', 7, 7);
        }
    }

    /** Bars in which nobody sings. */
    static void rest(JamSongs x, int bars) {
        for (int b = 0; b < bars; b++) {
            x.bar(7, 7, 7);
        }
    }
}
