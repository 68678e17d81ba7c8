/** The edges of texts (terms, promises 1 to 4): how long, which tokens, which faults, and where. */
public final class TextBoundsTest {
    private static final String HEAD = "street tables 2 moon 3;";
    private static final int AT = HEAD.length();
    private static final String SIGNS = ";:+-*()[]=<>";
    private static final Due due = new Due();

    public static void main(String[] args) {
        withoutText();
        theTape();
        partsOfTheTape();
        fullTexts();
        faultsTold();
        whatAStreetBringsAnew();
        bytesThatBeginTokens();
        bytesBehindWords();
        digits();
        tablesAndMoons();
        standing();
        rules();
        laterLines();
        lineByLine();
        otherWords();
        sumsAndTruths();
        deep();
        deepWays();
        firstAlongTheText();
        leastOfOneToken();
        theEnd();
        due.close("TextBoundsTest");
    }

    private static void good(String what, String text, int lines) {
        LetterNights x = new LetterNights();
        due.is(what + ": " + text, Texts.tell(x, text), lines);
        due.is(what + ", no fault: " + text, x.fault(0), 0);
        due.is(what + ", no fault's place: " + text, x.fault(1), -1);
        due.is(what + ", lines: " + text, x.told(9), lines);
    }

    private static void bad(String what, String text, int fault, int place) {
        LetterNights x = new LetterNights();
        due.is(what + ": " + text, Texts.tell(x, text), -30 - fault);
        due.is(what + ", its fault: " + text, x.fault(0), fault);
        due.is(what + ", its place: " + text, x.fault(1), place);
        due.is(what + ", all stays: " + text, x.told(9), 0);
        due.is(what + ", the tape is empty: " + text, x.told(8), 0);
    }

    private static void withoutText() {
        LetterNights x = new LetterNights();
        due.is("1: NONE", LetterNights.NONE, -1);
        due.is("1: one table", x.told(0), 1);
        due.is("1: no second table", x.becomes(1, 0, 0), -2);
        due.is("1: moon 0", x.told(1), 0);
        due.is("1: the letter a", x.letter(0), 0);
        due.is("1: alone", x.length(), 1);
        due.is("1: nothing on the tape", x.told(8), 0);
        due.is("1: no text, no lines", x.told(9), 0);
        due.is("1: no law of sleeping, none of picking", x.picks(), 0);
        due.is("1: no fault", x.fault(0), 0);
        due.is("1: nowhere", x.fault(1), -1);
        due.is("1: nothing to undo", x.told(7), 0);
    }

    private static void theTape() {
        LetterNights x = new LetterNights();
        int[] f = Texts.fed("street tables 1 moon", 0);
        due.is("2: the first twenty", x.feed(f[0], f[1], f[2], f[3], f[4]), 20);
        f = Texts.fed(" 0;stands f;", 0);
        due.is("2: behind those", x.feed(f[0], f[1], f[2], f[3], f[4]), 40);
        f = Texts.fed("", 0);
        for (int has = 60; has <= 900; has += 20) {
            due.is("2: how many it has", x.feed(f[0], f[1], f[2], f[3], f[4]), has);
        }
        f = Texts.fed("stands a;stands a;;;", 0);
        due.is("2: 920 are too many", x.feed(f[0], f[1], f[2], f[3], f[4]), -5);
        due.is("42: bytes on the tape", x.told(8), 900);
        due.is("3: a text of 900, as it was fed", x.street(900), 2);
        due.is("3: an f", x.letter(0), 5);
        due.is("3: the tape is empty then", x.told(8), 0);
        due.is("3: nothing is there any more", x.street(1), -3);
        due.is("2: the tape takes again", x.feed(-1, -1, -1, -1, -1), 20);
        due.is("3: bytes of 255", x.street(20), -31);
        due.is("4: at the first of them", x.fault(1), 0);
        // The highest byte of each int first: a blank, then a word, then a sign that is none.
        int[] ordered = {0x20617a40, 0x0a626040, 0x40202020, 0x20202020, 0x20202020};
        x.feed(ordered[0], ordered[1], ordered[2], ordered[3], ordered[4]);
        due.is("2: the word can't stand there", x.street(20), -32);
        due.is("2: it is behind one blank", x.fault(1), 1);
    }

    private static void partsOfTheTape() {
        String text = HEAD + "stands ab;  !!!!!!!";
        int[] lengths = {AT, AT + 10, AT + 12, AT + 13, 40, AT - 1, AT + 3, AT + 8, AT + 9};
        int[] answers = {1, 2, 2, -31, -31, -32, -32, -32, -32};
        int[] places = {-1, -1, -1, AT + 12, AT + 12, AT - 1, AT, AT + 8, AT + 9};
        for (int i = 0; i < lengths.length; i++) {
            LetterNights x = new LetterNights();
            int[] f = Texts.fed(text, 0);
            x.feed(f[0], f[1], f[2], f[3], f[4]);
            f = Texts.fed(text, 20);
            x.feed(f[0], f[1], f[2], f[3], f[4]);
            due.is("3: n is above by one", x.street(41), -3);
            due.is("3: n is below by one", x.street(-1), -3);
            due.is("3: the tape stays", x.told(8), 40);
            due.is("4: it wasn't read", x.fault(1), -1);
            due.is("3: the first " + lengths[i], x.street(lengths[i]), answers[i]);
            due.is("4: where, of the first " + lengths[i], x.fault(1), places[i]);
            due.is("3: of all the tape nothing is left", x.told(8), 0);
        }
        LetterNights x = new LetterNights();
        due.is("3: 0 of an empty tape is a text without anything", x.street(0), -32);
        due.is("4: whose end is at 0", x.fault(1), 0);
        due.is("3: 1 of an empty tape", x.street(1), -3);
    }

    private static void fullTexts() {
        String start = "street tables3moon0;";
        StringBuilder lines = new StringBuilder(start);
        for (int i = 0; i < 109; i++) {
            lines.append("picks:1;");
        }
        good("3: 900 bytes", lines + "picks:2;", 111);
        bad("3: 900 bytes without the last one", lines + "picks:2 ", 2, 900);
        due.is("6: the last line counts", Due.street(lines + "picks:2;").picks(), 2);
        StringBuilder sum = new StringBuilder(start + "picks:1");
        while (sum.length() < 899) {
            sum.append("+1");
        }
        due.is("6: a sum of 437 ones is 2 by three", Due.street(sum + ";").picks(), 2);
        StringBuilder truth = new StringBuilder(start + "sleeps:1=1");
        while (truth.length() < 890) {
            truth.append(" and 1=1");
        }
        while (truth.length() < 899) {
            truth.append(' ');
        }
        due.is("6: as many truths as can be", Due.street(truth + ";").picks(), -1);
        String falseAtLast = truth.toString().trim();
        falseAtLast = falseAtLast.substring(0, falseAtLast.length() - 1) + "2;";
        due.is("6: the last of them counts", Due.street(falseAtLast).picks(), 0);
    }

    private static void faultsTold() {
        LetterNights x = new LetterNights();
        due.is("4: a new object, its fault", x.fault(0), 0);
        due.is("4: a new object, the place", x.fault(1), -1);
        Texts.tell(x, HEAD + "stands abcdefabcdefa;");
        due.is("4: the fault", x.fault(0), 3);
        due.is("4: the place", x.fault(1), AT + 7);
        for (int what : new int[] {-1, 2, Integer.MIN_VALUE, Integer.MAX_VALUE}) {
            due.is("4: others", x.fault(what), -1);
        }
        due.is("3: refused", x.street(1), -3);
        due.is("4: a refused one wasn't read", x.fault(0), 3);
        due.is("4: a refused one wasn't read", x.fault(1), AT + 7);
        Texts.tell(x, "!");
        due.is("4: the latest one", x.fault(0), 1);
        due.is("4: at 0", x.fault(1), 0);
        Texts.tell(x, HEAD);
        due.is("4: none any more", x.fault(0), 0);
        due.is("4: nowhere any more", x.fault(1), -1);
    }

    private static void whatAStreetBringsAnew() {
        LetterNights x = Due.street("street tables 3 moon 9;stands abcdefabcdef;rule 2 f : nothing;picks : 2;sleeps : moon = 8;");
        x.nights(2);
        x.moon(8);
        x.night(0);
        Due.tray(x, 0, 0, 1);
        x.image(0);
        due.is("3: a fault", Texts.tell(x, HEAD + HEAD), -32);
        int[] stay = {3, 8, 3, 2, 0, 4, 5, 3, 0, 5};
        for (int what = 0; what < stay.length; what++) {
            due.is("3: with a fault told(" + what + ") stays", x.told(what), stay[what]);
        }
        due.is("3: the laws stay", x.picks(), -1);
        due.is("3: the rules stay", x.becomes(2, 5, -1), 0);
        due.is("3: a good one", Texts.tell(x, "street tables 3 moon 0;"), 1);
        int[] anew = {3, 0, 0, 0, 0, 0, 1, 0, 0, 1};
        for (int what = 0; what < anew.length; what++) {
            due.is("3: anew told(" + what + ")", x.told(what), anew[what]);
        }
        due.is("3: without a rule: itself", x.becomes(2, 5, 0), 5);
        due.is("3: without stands: a", x.length(), 1);
        due.is("3: without laws", x.picks(), 0);
        due.is("3: nothing can be undone", x.undo(1), -3);
        due.is("3: trays stay", x.judge(0, 0), -1);
        due.is("3: images stay", x.restore(0), 0);
        due.is("41: as it was", x.length(), 10);
    }

    private static boolean isSmall(int b) {
        return b >= 'a' && b <= 'z';
    }

    private static boolean isToken(int b) {
        return isSmall(b) || b >= '0' && b <= '9' || SIGNS.indexOf(b) >= 0;
    }

    private static void bytesThatBeginTokens() {
        for (int b = 0; b < 256; b++) {
            boolean blank = b == 10 || b == 32;
            int fault = blank || isToken(b) ? 2 : 1;
            bad("4: byte " + b, HEAD + (char) b + ";", fault, blank ? AT + 1 : AT);
            // In a law what can't stand there is told like that, too.
            String law = HEAD + "picks:1";
            int place = law.length();
            if (blank || b == ';') {
                good("4: byte " + b, law + (char) b + (blank ? ";" : ""), 2);
            } else if (b >= '0' && b <= '9') {
                good("4: byte " + b, law + (char) b + ";", 2);
            } else if (b == '+' || b == '-' || b == '*') {
                bad("4: byte " + b, law + (char) b + ";", 2, place + 1);
            } else {
                bad("4: byte " + b, law + (char) b + ";", fault, place);
            }
        }
    }

    private static void bytesBehindWords() {
        for (int b = 0; b < 256; b++) {
            String text = HEAD + "stands a" + (char) b + ";";
            boolean blank = b == 10 || b == 32;
            if (blank || b >= 'a' && b <= 'f') {
                good("4: byte " + b, text, 2);
            } else if (isSmall(b)) {
                bad("4: a word that isn't of letters alone", text, 2, AT + 7);
            } else if (b == ';') {
                bad("4: no empty line", text, 2, AT + 9);
            } else {
                bad("4: byte " + b, text, isToken(b) ? 2 : 1, AT + 8);
            }
        }
    }

    private static void digits() {
        good("4: three digits", "street tables 003 moon 009;rule 002 a : a;picks : 000 + 999;", 3);
        good("4: one digit", "street tables 3 moon 9;rule 2 a : a;picks : 0 + 9;", 3);
        bad("4: four digits, at their first", "street tables 0003 moon 9;", 1, 14);
        bad("4: four digits", "street tables 3 moon 0009;", 1, 21);
        bad("4: four digits", HEAD + "rule 0000 a : a;", 1, AT + 5);
        bad("4: four digits", HEAD + "picks : 1000;", 1, AT + 8);
        bad("4: four digits, where no number can stand", HEAD + "stands 0001;", 1, AT + 7);
        bad("4: thirty digits", HEAD + "picks : 111111111111111111111111111111;", 1, AT + 8);
        bad("4: three digits, where no number can stand", HEAD + "stands 001;", 2, AT + 7);
        bad("4: two numbers", HEAD + "picks : 100 0;", 2, AT + 12);
        good("4: digits and words need no blank", "street tables2moon3;rule 1a:b;picks:if 1=1then 1else 0end;", 3);
        bad("4: words do", "streettables 2 moon 3;", 2, 0);
        bad("4: words do", HEAD + "standsa;", 2, AT);
        good("4: blanks of both kinds, anywhere", "\n street \n tables\n2 moon\n\n3 ;\nstands\n a ; \n", 2);
    }

    private static void tablesAndMoons() {
        for (int n : new int[] {0, 4, 5, 10, 999}) {
            bad("4: tables", "street tables " + n + " moon 0;", 3, 14);
        }
        for (int n = 1; n <= 3; n++) {
            LetterNights x = Due.street("street tables " + n + " moon 0;");
            due.is("42: tables", x.told(0), n);
            due.is("5: the last table", x.becomes(n - 1, 0, -1), 1);
            due.is("5: the first that isn't", x.becomes(n, 0, -1), -2);
        }
        for (int n = 0; n <= 9; n++) {
            due.is("42: moon", Due.street("street tables 1 moon " + n + ";").told(1), n);
        }
        for (int n : new int[] {10, 11, 99, 999}) {
            bad("4: moon", "street tables 1 moon " + n + ";", 3, 21);
        }
    }

    private static void standing() {
        for (int n = 1; n <= 12; n++) {
            String letters = "fedcbafedcba".substring(12 - n);
            LetterNights x = Due.street(HEAD + "stands " + letters + ";");
            due.is("7: so many stand there", x.length(), n);
            for (int i = 0; i < n; i++) {
                due.is("8: letter " + i + " of " + letters, x.letter(i), letters.charAt(i) - 'a');
            }
            due.is("8: none behind", x.letter(n), -1);
        }
        bad("4: thirteen", HEAD + "stands abcdefabcdefa;", 3, AT + 7);
        bad("4: thirteen, not of letters alone", HEAD + "stands abcdefabcdefg;", 2, AT + 7);
        bad("4: none", HEAD + "stands ;", 2, AT + 7);
        bad("4: nothing can't stand", HEAD + "stands nothing;", 2, AT + 7);
    }

    private static void rules() {
        for (int tables = 1; tables <= 3; tables++) {
            String head = "street tables " + tables + " moon 0;";
            good("4: the last table", head + "rule " + (tables - 1) + " a : b;", 2);
            bad("4: behind the last table", head + "rule " + tables + " a : b;", 3, AT + 5);
        }
        good("4: the last letter", HEAD + "rule 0 f : a;", 2);
        bad("4: behind the last letter", HEAD + "rule 0 g : a;", 2, AT + 7);
        bad("4: two letters", HEAD + "rule 0 ab : a;", 3, AT + 7);
        bad("4: no letter", HEAD + "rule 0 : a;", 2, AT + 7);
        bad("4: two letters, one of which is none", HEAD + "rule 0 ag : a;", 2, AT + 7);
        bad("4: nothing doesn't become", HEAD + "rule 0 nothing : a;", 2, AT + 7);
        for (int n = 1; n <= 4; n++) {
            LetterNights x = Due.street(HEAD + "rule 1 f : " + "fabc".substring(4 - n) + ";");
            due.is("5: so many", x.becomes(1, 5, -1), n);
            due.is("5: the last one", x.becomes(1, 5, n - 1), 2);
            due.is("5: none behind", x.becomes(1, 5, n), -1);
            due.is("5: itself by the other table", x.becomes(0, 5, -1), 1);
            due.is("5: the letter ahead becomes itself", x.becomes(1, 4, 0), 4);
        }
        bad("4: it becomes five", HEAD + "rule 0 a : abcde;", 3, AT + 11);
        bad("4: it becomes no word", HEAD + "rule 0 a : ;", 2, AT + 11);
        bad("4: nothing and more", HEAD + "rule 0 a : nothing a;", 2, AT + 19);
        LetterNights x = Due.street(HEAD + "rule 0 a : nothing;");
        due.is("5: nothing", x.becomes(0, 0, -1), 0);
        due.is("5: no first of nothing", x.becomes(0, 0, 0), -1);
        due.is("5: far behind", x.becomes(0, 0, Integer.MAX_VALUE), -1);
    }

    private static void laterLines() {
        LetterNights x = Due.street(HEAD + "rule 0 a : abcd;rule 1 a : ef;rule 0 b : fff;rule 0 a : d;rule 0 b : nothing;rule 0 f : nothing;"
                + "rule 0 f : ee;stands abcdefabcdef;stands fb;");
        due.is("5: the later one is shorter", x.becomes(0, 0, -1), 1);
        due.is("5: the later one", x.becomes(0, 0, 0), 3);
        due.is("5: nothing of the earlier one", x.becomes(0, 0, 1), -1);
        due.is("5: the other table's stays", x.becomes(1, 0, -1), 2);
        due.is("5: nothing in place of a word", x.becomes(0, 1, -1), 0);
        due.is("5: a word in place of nothing", x.becomes(0, 5, -1), 2);
        due.is("7: the later stands", x.length(), 2);
        due.is("8: the later stands", x.letter(0), 5);
        due.is("11: by those rules", x.night(1), 2);
        due.is("8: ee", x.letter(1), 4);
        LetterNights y = Due.street(HEAD + "picks : 1;sleeps : 1 = 1;picks : 2 + 1;sleeps : 1 = 2 and 1 = 2;picks : 4;");
        due.is("6: the latest picks, the later sleeps", y.picks(), 0);
        LetterNights z = Due.street(HEAD + "picks : 0;sleeps : 1 = 2;sleeps : 1 = 1;picks : 1;");
        due.is("6: the later sleeps", z.picks(), -1);
    }

    private static void lineByLine() {
        bad("4: street once", HEAD + "street tables 2 moon 3;", 2, AT);
        bad("4: street first", "stands a;" + HEAD, 2, 0);
        bad("4: street first", "picks : 1;", 2, 0);
        bad("4: without tables", "street moon 3;", 2, 7);
        bad("4: without a number of tables", "street tables moon 3;", 2, 14);
        bad("4: without a moon", "street tables 2;", 2, 15);
        bad("4: without a number of the moon", "street tables 2 moon;", 2, 20);
        bad("4: more than that", "street tables 2 moon 3 4;", 2, 23);
        bad("4: no end of the line", "street tables 2 moon 3 stands a;", 2, 23);
        bad("4: a line of nothing", HEAD + ";", 2, AT);
        bad("4: no such line", HEAD + "rules 0 a : a;", 2, AT);
        bad("4: no such line", HEAD + "pick : 1;", 2, AT);
        bad("4: a line of letters", HEAD + "a;", 2, AT);
        bad("4: a line by a number", HEAD + "1;", 2, AT);
        bad("4: without a sign", HEAD + "rule 0 a a;", 2, AT + 9);
        bad("4: another sign", HEAD + "rule 0 a = a;", 2, AT + 9);
        bad("4: without a table", HEAD + "rule a : a;", 2, AT + 5);
        bad("4: without a sign", HEAD + "picks 1;", 2, AT + 6);
        bad("4: without a sign", HEAD + "sleeps 1 = 1;", 2, AT + 7);
        bad("4: two words", HEAD + "stands a a;", 2, AT + 9);
    }

    /** Each word of the language, changed at its first letter or its last, longer or shorter by one. */
    private static void otherWords() {
        String whole = "street tables 2 moon 3 ; stands a ; rule 0 a : nothing ; picks : night + moon + front + back + rest"
                + " + if not 1 = 1 or 1 = 1 and 1 = 1 then 1 else 2 end ; sleeps : 1 = 1 ;";
        good("4: it is whole", whole, 5);
        String[] tokens = whole.split(" ");
        for (int i = 0, at = 0; i < tokens.length; i++) {
            String word = tokens[i];
            String behind = whole.substring(at + word.length());
            if (word.length() > 1) {
                int last = word.length() - 1;
                String[] others = {"z" + word.substring(1), word.substring(0, last) + "z", word + "z", word.substring(0, last), "x" + word};
                for (String other : others) {
                    bad("4: in place of " + word, whole.substring(0, at) + other + behind, 2, at);
                }
            }
            at += word.length() + 1;
        }
    }

    private static void sumsAndTruths() {
        String picks = HEAD + "picks : ";
        int at = picks.length();
        bad("4: no sum", picks + ";", 2, at);
        bad("4: no atom ahead", picks + "+ 1;", 2, at);
        bad("4: no atom behind", picks + "1 *;", 2, at + 3);
        bad("4: two signs", picks + "1 + - 1;", 2, at + 4);
        bad("4: letters are no atom", picks + "a;", 2, at);
        bad("4: nothing is no atom", picks + "nothing;", 2, at);
        bad("4: a truth is no sum", picks + "1 < 2;", 2, at + 2);
        bad("4: nothing in it", picks + "();", 2, at + 1);
        bad("4: not closed", picks + "(1;", 2, at + 2);
        bad("4: closed otherwise", picks + "(1];", 2, at + 2);
        bad("4: not opened", picks + "1);", 2, at + 1);
        bad("4: no truth", picks + "if 1 then 1 else 1 end;", 2, at + 5);
        bad("4: no then", picks + "if 1 = 1 else 1 end;", 2, at + 9);
        bad("4: no else", picks + "if 1 = 1 then 1 end;", 2, at + 16);
        bad("4: no end", picks + "if 1 = 1 then 1 else 1;", 2, at + 22);
        bad("4: end alone", picks + "end;", 2, at);
        String sleeps = HEAD + "sleeps : ";
        at = sleeps.length();
        bad("4: no truth", sleeps + ";", 2, at);
        bad("4: a sum alone", sleeps + "1;", 2, at + 1);
        bad("4: nothing behind", sleeps + "1 =;", 2, at + 3);
        bad("4: nothing ahead", sleeps + "= 1;", 2, at);
        bad("4: two signs", sleeps + "1 < = 1;", 2, at + 4);
        bad("4: a second comparison", sleeps + "1 < 2 < 3;", 2, at + 6);
        bad("4: no truth behind or", sleeps + "1 = 1 or;", 2, at + 8);
        bad("4: no truth behind and", sleeps + "1 = 1 and;", 2, at + 9);
        bad("4: no truth behind not", sleeps + "not;", 2, at + 3);
        bad("4: or ahead", sleeps + "or 1 = 1;", 2, at);
        bad("4: a truth in a sum's brackets", sleeps + "(1 = 1);", 2, at + 3);
        bad("4: a sum in a truth's brackets", sleeps + "[1];", 2, at + 2);
        bad("4: not closed", sleeps + "[1 = 1;", 2, at + 6);
        bad("4: closed otherwise", sleeps + "[1 = 1);", 2, at + 6);
        bad("4: nothing in it", sleeps + "[];", 2, at + 1);
        bad("4: a truth can't be compared", sleeps + "[1 = 1] = 1;", 2, at + 8);
    }

    private static String times(String piece, int n) {
        StringBuilder b = new StringBuilder();
        for (int i = 0; i < n; i++) {
            b.append(piece);
        }
        return b.toString();
    }

    private static void deep() {
        String picks = HEAD + "picks : ";
        String sleeps = HEAD + "sleeps : ";
        good("4: six (", picks + times("(", 6) + "1" + times(")", 6) + ";", 2);
        bad("4: a seventh (", picks + times("(", 7) + "1" + times(")", 7) + ";", 4, picks.length() + 6);
        good("4: six [", sleeps + times("[", 6) + "1 = 1" + times("]", 6) + ";", 2);
        bad("4: a seventh [", sleeps + times("[", 7) + "1 = 1" + times("]", 7) + ";", 4, sleeps.length() + 6);
        good("4: six not", sleeps + times("not ", 6) + "1 = 1;", 2);
        bad("4: a seventh not", sleeps + times("not ", 7) + "1 = 1;", 4, sleeps.length() + 24);
        String open = "if 1 = 1 then 1 else ";
        good("4: six if", picks + times(open, 6) + "1" + times(" end", 6) + ";", 2);
        bad("4: a seventh if", picks + times(open, 7) + "1" + times(" end", 7) + ";", 4, picks.length() + 6 * open.length());
        good("4: six one behind the other", picks + times("(1) + ", 30) + times("(", 6) + "1" + times(")", 6) + " * " + open + "1 end;", 2);
        good("4: six, closed and opened again", picks + "(((((" + "(1) * (2)" + ")))));", 2);
        good("4: not binds one truth alone", sleeps + times("not 1 = 1 or ", 20) + "not not 1 = 1;", 2);
        good("4: laws begin anew", picks + times("(", 6) + "1" + times(")", 6) + ";sleeps : " + times("not ", 6) + "1 = 1;", 3);
        bad("4: the second law's seventh", picks + "((1));sleeps : " + times("not ", 7) + "1 = 1;", 4, picks.length() + 15 + 24);
    }

    /** A seventh one of each kind within six of mixed kinds. */
    private static void deepWays() {
        String sleeps = HEAD + "sleeps : ";
        String[] truths = {"not ", "["};
        String[] sums = {"(", "if 1 = 1 then 1 else "};
        for (String outer : truths) {
            for (String inner : truths) {
                for (String sum : sums) {
                    String five = outer + inner + outer + inner + "1 = " + sum;
                    String six = five + "(";
                    for (String seventh : sums) {
                        bad("4: the seventh", sleeps + six + seventh + "1", 4, sleeps.length() + six.length());
                        bad("4: the sixth is none, its end is missing", sleeps + five + seventh + "1", 2,
                                sleeps.length() + five.length() + seventh.length() + 1);
                    }
                    String sixWithIf = five + "if ";
                    for (String seventh : truths) {
                        bad("4: the seventh", sleeps + sixWithIf + seventh + "1", 4, sleeps.length() + sixWithIf.length());
                    }
                }
            }
        }
        for (String place : new String[] {"if (1", "if 1 = (1", "if 1 = 1 then (1", "if 1 = 1 then 1 else (1"}) {
            String law = HEAD + "picks : (((((" + place;
            bad("4: all that is within an if", law, 4, law.length() - 2);
        }
    }

    private static void firstAlongTheText() {
        bad("4: 3 ahead of 1", HEAD + "stands abcdefabcdefa; !", 3, AT + 7);
        bad("4: 2 ahead of 1", HEAD + "stands g !;", 2, AT + 7);
        bad("4: 4 ahead of 1, 2 and 3", HEAD + "picks : ((((((( ! a 9999;", 4, AT + 14);
        bad("4: 1 ahead of 2", HEAD + "stands ! g;", 1, AT + 7);
        bad("4: 3 ahead of 2", "street tables 9 moon g;", 3, 14);
        bad("4: 3 ahead of 3", "street tables 9 moon 99;", 3, 14);
        bad("4: 3 ahead of the end", "street tables 9", 3, 14);
        bad("4: the end ahead of nothing", "street tables", 2, 13);
        bad("4: table ahead of letters", HEAD + "rule 2 aa : aaaaa;", 3, AT + 5);
        bad("4: letters ahead of what they become", HEAD + "rule 1 aa : aaaaa;", 3, AT + 7);
    }

    private static void leastOfOneToken() {
        bad("4: 1, not 2", HEAD + "stands 1234;", 1, AT + 7);
        bad("4: 1, not 3", "street tables 1234 moon 3;", 1, 14);
        bad("4: 2, not 3", HEAD + "999;", 2, AT);
        bad("4: 2, not 3", HEAD + "rule 0 9 : a;", 2, AT + 7);
        bad("4: 2, not 3", HEAD + "abcdefabcdefabcdef;", 2, AT);
        bad("4: 2, not 3", HEAD + "rule 0 a : abcdeg;", 2, AT + 11);
        bad("4: 2, not 3", HEAD + "picks : abcdefabcdefa;", 2, AT + 8);
        bad("4: 2, not 4", HEAD + "picks : ((((((not 1 = 1;", 2, AT + 14);
        bad("4: 2, not 4", HEAD + "picks : (((((([1 = 1;", 2, AT + 14);
        bad("4: 2, not 4", HEAD + "picks : ((((((1 (1;", 2, AT + 16);
        bad("4: 2, not 4", HEAD + "sleeps : not not not not not not 1 not;", 2, AT + 35);
        bad("4: 1, not 4", HEAD + "picks : ((((((@;", 1, AT + 14);
    }

    private static void theEnd() {
        String whole = "street tables 2 moon 3 ; stands a ; rule 0 a : b ; picks : if 1 = 1 then 1 else ( 2 ) end ; sleeps : not [ 1 < 2 ] ;";
        good("4: it is whole", whole, 5);
        String[] tokens = whole.split(" ");
        int lines = 0;
        for (int i = 0, to = 0; i < tokens.length; i++) {
            to += (i == 0 ? 0 : 1) + tokens[i].length();
            String part = whole.substring(0, to);
            if (tokens[i].equals(";")) {
                lines++;
                good("4: as far as a line's end", part, lines);
                good("4: blanks behind", part + " \n  ", lines);
            } else {
                bad("4: the end", part, 2, to);
                bad("4: the end behind blanks", part + " \n  ", 2, to + 4);
            }
        }
        bad("4: blanks alone", "     ", 2, 5);
        bad("4: nothing", "", 2, 0);
        bad("4: part of a word", "stree", 2, 0);
    }
}
