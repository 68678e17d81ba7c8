/** What tests share: every answer that isn't the due one is printed and counted. */
final class Due {
    /** The most letters that a street may have. */
    static final long MOST = 1_000_000_000_000L;

    private int asked = 0;
    private int wrong = 0;

    void is(String what, long got, long due) {
        asked++;
        if (got != due) {
            wrong++;
            System.out.println(what + " answered " + got + ", due is " + due);
        }
    }

    void holds(String what, boolean so) {
        is(what, so ? 1 : 0, 1);
    }

    /** Ends the test. */
    void close(String test) {
        System.out.println(test + ": " + asked + " answers, " + wrong + " wrong");
        if (wrong != 0 || asked == 0) {
            System.exit(1);
        }
    }

    /** A tray's numbers are told anew, of 64 bits each. */
    static void tray(LetterNights x, int tray, long... values) {
        x.numbers(tray, 3, values.length);
        for (int i = 0; i < values.length; i++) {
            x.write(tray, i, values[i]);
        }
    }

    static LetterNights street(String text) {
        LetterNights x = new LetterNights();
        int lines = Texts.tell(x, text);
        if (lines < 1) {
            throw new IllegalArgumentException("fault " + x.fault(0) + " at " + x.fault(1) + " of " + text);
        }
        return x;
    }

    /**
     * c and behind it so many a that the street is just so long, behind a night by table 0 or 1 for
     * each binary digit of the a's number. What table 2 does is told by the rules that are handed in.
     */
    static LetterNights longStreet(long length, String rulesOfTable2) {
        LetterNights x = street("street tables 3 moon 0;stands c;rule 0 a : aa;rule 1 a : aa;rule 1 c : ca;" + rulesOfTable2);
        for (int bit = 63 - Long.numberOfLeadingZeros(length - 1); bit >= 0; bit--) {
            x.night(1 + (int) (length - 1 >> bit & 1));
        }
        if (x.length() != length) {
            throw new IllegalArgumentException(length + " letters were wanted, there are " + x.length());
        }
        return x;
    }
}
