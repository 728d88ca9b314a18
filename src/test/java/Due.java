/** What the tests share: texts onto the tape, and answers compared with those that are due. */
final class Due {
    private int wrong;
    private int asked;
    private String test = "";

    static CorkStreet lakeOf(String text) {
        CorkStreet x = new CorkStreet();
        lake(x, text);
        return x;
    }

    static int lake(CorkStreet x, String text) {
        feed(x, text);
        return x.lake(text.length());
    }

    /** Feeds a text, with blanks behind it up to a multiple of twenty. */
    static void feed(CorkStreet x, String text) {
        for (int at = 0; at < text.length(); at += 20) {
            x.feed(four(text, at), four(text, at + 4), four(text, at + 8), four(text, at + 12), four(text, at + 16));
        }
    }

    private static int four(String text, int at) {
        int number = 0;
        for (int i = at; i < at + 4; i++) {
            number = number << 8 | (i < text.length() ? text.charAt(i) & 255 : ' ');
        }
        return number;
    }

    /** What is asked from now on belongs to a test of that name. */
    void begin(String name) {
        test = name.isEmpty() ? "" : name + ": ";
    }

    void is(String what, long got, long due) {
        is(what, Long.toString(got), Long.toString(due));
    }

    void is(String what, String got, String due) {
        asked++;
        if (!got.equals(due)) {
            wrong++;
            if (wrong <= 40) {
                System.out.println(test + what + " answered " + got + ", due is " + due);
            }
        }
    }

    void is(String what, boolean got, boolean due) {
        is(what, got ? 1 : 0, due ? 1 : 0);
    }

    /** An answer that isn't refused: the trouble is 0 then. */
    void fine(String what, CorkStreet x, long got, long due) {
        is(what, got, due);
        is("trouble() behind " + what, x.trouble(), 0);
    }

    void fine(String what, CorkStreet x, boolean got) {
        fine(what, x, got ? 1 : 0, 1);
    }

    void refused(String what, CorkStreet x, long got, int trouble) {
        is(what, got, CorkStreet.NONE);
        is("trouble() behind " + what, x.trouble(), trouble);
    }

    void refused(String what, CorkStreet x, boolean got, int trouble) {
        is(what, got, false);
        is("trouble() behind " + what, x.trouble(), trouble);
    }

    boolean failed() {
        return wrong > 0;
    }

    void end() {
        System.out.println(asked + " answers, " + wrong + " not as due");
        if (wrong > 0) {
            System.exit(1);
        }
    }
}
