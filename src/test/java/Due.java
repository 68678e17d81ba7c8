/** What tests share: every answer that isn't the due one is printed and counted. */
final class Due {
    private int asked = 0;
    private int wrong = 0;

    void is(String what, long got, long due) {
        asked++;
        if (got != due) {
            wrong++;
            System.out.println(what + " answered " + got + ", due is " + due);
        }
    }

    void holds(String what, boolean so) {
        is(what, so ? 1 : 0, 1);
    }

    /** Ends the test. */
    void close(String test) {
        System.out.println(test + ": " + asked + " answers, " + wrong + " wrong");
        if (wrong != 0 || asked == 0) {
            System.exit(1);
        }
    }

    /** A tray's numbers are told anew, of 64 bits each. */
    static void tray(LetterNights x, int tray, long... values) {
        x.numbers(tray, 3, values.length);
        for (int i = 0; i < values.length; i++) {
            x.write(tray, i, values[i]);
        }
    }

    static LetterNights street(String text) {
        LetterNights x = new LetterNights();
        int lines = Texts.tell(x, text);
        if (lines < 1) {
            throw new IllegalArgumentException("fault " + x.fault(0) + " at " + x.fault(1) + " of " + text);
        }
        return x;
    }
}
