import java.util.Arrays;

/** A street of letters that have children overnight; ../shared/DOC.md is what it promises. */
public final class LetterNights {
    public static final int NONE = -1;

    private static final int NO_SUCH = -2;
    private static final int BAD_NUMBER = -3;
    private static final int TOO_MANY = -4;
    private static final int NOT_NOW = -5;
    private static final int TRAY_MISSING = -6;
    private static final int NO_PLACE_IN_TRAY = -7;
    private static final int WHY_NOT = -10;
    private static final int TEXT_FAULT = -30;

    private static final int KINDS = 6;
    private static final int CHILDREN_MOST = 4;
    private static final int TABLES_MOST = 3;
    private static final int MOON_MOST = 9;
    private static final int STANDS_MOST = 12;
    private static final int TEXT_MOST = 900;
    private static final int AWAKE_MOST = 60;
    private static final long LENGTH_MOST = 1_000_000_000_000L;
    // What a letter that stands nowhere would grow to is of no use; this keeps it from running over.
    private static final long KEPT_BELOW = 2_000_000_000_000L;

    private static final int TRAYS = 4;
    private static final int TRAY_PLACES = 40;
    private static final int IMAGES = 2;
    private static final int WORD_MOST = 6;
    private static final int LONG_MOST = 8;
    private static final int SOONEST_MOST = 6;
    private static final int ROWS_MOST = 7;
    private static final int TURNS_MOST = 7;
    private static final int CHANCE_MOST = 12;
    private static final int MEAN_MOST = 6;
    private static final int YEAR_MOST = 20;
    private static final int FIRST_MOON_DEED = 10;

    private final byte[] tape = new byte[TEXT_MOST];
    private int taped;
    private final Reader reader = new Reader();
    private final Scene scene;
    private final Scene trial;
    private final Past past = new Past();
    private final Scene[] images = new Scene[IMAGES];
    private final Tray[] trays = new Tray[TRAYS];
    private final Survey survey = new Survey();
    private final Finder finder = new Finder();
    private final Kin kin = new Kin();
    private final Futures futures;

    public LetterNights() {
        Town untold = new Town();
        scene = new Scene(untold);
        trial = new Scene(untold);
        futures = new Futures(untold);
        for (int i = 0; i < TRAYS; i++) {
            trays[i] = new Tray();
        }
    }

    // ---- the street

    public int feed(int a, int b, int c, int d, int e) {
        if (taped + 20 > TEXT_MOST) {
            return NOT_NOW;
        }
        tapeBytes(a);
        tapeBytes(b);
        tapeBytes(c);
        tapeBytes(d);
        tapeBytes(e);
        return taped;
    }

    private void tapeBytes(int four) {
        for (int shift = 24; shift >= 0; shift -= 8) {
            if (taped < tape.length) {
                tape[taped] = (byte) (four >>> shift);
                taped++;
            }
        }
    }

    public int street(int n) {
        if (n < 0 || n > taped) {
            return BAD_NUMBER;
        }
        taped = 0;
        Town read = reader.readTown(tape, n);
        if (read == null) {
            return TEXT_FAULT - reader.fault;
        }
        scene.begin(read);
        past.forget();
        return read.lines;
    }

    public int fault(int what) {
        if (what == 0) {
            return reader.fault;
        }
        return what == 1 ? reader.faultPlace : NONE;
    }

    public int becomes(int table, int letter, int i) {
        if (!isTable(table) || !isLetter(letter)) {
            return NO_SUCH;
        }
        if (i < NONE) {
            return BAD_NUMBER;
        }
        int size = scene.town.sizeOf(table, letter);
        if (i == NONE) {
            return size;
        }
        return i < size ? scene.town.childOf(table, letter, i) : NONE;
    }

    public int picks() {
        return scene.asleep() ? NONE : scene.pickedTable();
    }

    public long length() {
        return scene.span;
    }

    public int letter(long place) {
        if (place < 0) {
            return BAD_NUMBER;
        }
        if (place >= scene.span) {
            return NONE;
        }
        survey.measure(scene);
        return survey.letterAt(scene, place);
    }

    public long count(int letter, long place) {
        if (!isLetter(letter)) {
            return NO_SUCH;
        }
        if (place < 0 || place > scene.span) {
            return BAD_NUMBER;
        }
        if (place == scene.span) {
            return scene.counts[letter];
        }
        survey.measure(scene);
        return survey.countAhead(scene, letter, place);
    }

    public long place(int letter, long k) {
        if (!isLetter(letter)) {
            return NO_SUCH;
        }
        if (k < 1) {
            return BAD_NUMBER;
        }
        if (k > scene.counts[letter]) {
            return NONE;
        }
        survey.measure(scene);
        return survey.placeOf(scene, letter, k - 1);
    }

    // ---- deeds

    public long night(int deed) {
        if (deed < 0 || deed > TABLES_MOST) {
            return WHY_NOT - Scene.NO_TABLE;
        }
        past.mark(scene);
        int why = scene.tryDeed(deed);
        if (why != 0) {
            return WHY_NOT - why;
        }
        past.keepMark();
        return scene.span;
    }

    public int nights(int n) {
        if (n < 1 || n > AWAKE_MOST) {
            return BAD_NUMBER;
        }
        past.mark(scene);
        int done = 0;
        while (done < n && scene.tryDeed(0) == 0) {
            done++;
        }
        keepIfDone(done);
        return done;
    }

    private void keepIfDone(int done) {
        if (done > 0) {
            past.keepMark();
        }
    }

    public int moon(int n) {
        if (n < 0 || n > MOON_MOST) {
            return WHY_NOT - Scene.NO_TABLE;
        }
        past.mark(scene);
        past.keepMark();
        int was = scene.moon;
        scene.moon = n;
        return was;
    }

    public int undo(int n) {
        if (n < 1 || n > past.kept) {
            return BAD_NUMBER;
        }
        past.goBack(scene, n);
        return past.kept;
    }

    public int judge(int tray, int what) {
        if (!isTray(tray) || what < 0 || what > 3) {
            return NO_SUCH;
        }
        Tray deeds = trays[tray];
        if (deeds.missing()) {
            return TRAY_MISSING;
        }
        trial.copyFrom(scene);
        int why = 0;
        int at = 0;
        while (at < deeds.size && why == 0) {
            why = trial.tryDeed(deeds.get(at));
            at++;
        }
        switch (what) {
            case 0:
                return why == 0 ? NONE : at - 1;
            case 1:
                return why;
            case 2:
                return (int) (trial.span % 1_000_000L);
            default:
                return trial.frontLetter();
        }
    }

    public int perform(int tray) {
        int refusal = refusalOfTray(tray);
        if (refusal != 0) {
            return refusal;
        }
        Tray deeds = trays[tray];
        past.mark(scene);
        int done = 0;
        while (done < deeds.size && scene.tryDeed(deeds.get(done)) == 0) {
            done++;
        }
        keepIfDone(done);
        return done;
    }

    public int year(int seed, int times) {
        if (times < 1 || times > YEAR_MOST) {
            return BAD_NUMBER;
        }
        past.mark(scene);
        int done = 0;
        int x = seed;
        for (int i = 0; i < times; i++) {
            x = drawnFrom(x);
            int kind = (x >>> 16) % 5;
            int deed = 0;
            if (kind >= 2) {
                x = drawnFrom(x);
                deed = kind == 4 ? FIRST_MOON_DEED + (x >>> 16) % 10 : (x >>> 16) % 4;
            }
            if (scene.tryDeed(deed) == 0) {
                done++;
            }
        }
        keepIfDone(done);
        return done;
    }

    private static int drawnFrom(int x) {
        return 1103515245 * x + 12345;
    }

    // ---- words

    public long occurs(int tray) {
        int refusal = refusalOfWord(tray);
        if (refusal != 0) {
            return refusal;
        }
        finder.learn(trays[tray]);
        finder.search(scene);
        return finder.hitsInAll(scene);
    }

    public long first(int tray) {
        int refusal = refusalOfWord(tray);
        if (refusal != 0) {
            return refusal;
        }
        finder.learn(trays[tray]);
        finder.search(scene);
        survey.measure(scene);
        return finder.firstPlace(scene, survey.spans);
    }

    public int backs(int tray, int table) {
        int refusal = refusalOfReadingBack(tray, table);
        if (refusal != 0) {
            return refusal;
        }
        finder.readBack(trays[tray], scene.town, table);
        return finder.waysBack[0];
    }

    public int backBy(int tray, int table, int i) {
        int refusal = refusalOfReadingBack(tray, table);
        if (refusal != 0) {
            return refusal;
        }
        if (i < 0) {
            return BAD_NUMBER;
        }
        finder.readBack(trays[tray], scene.town, table);
        return finder.letterBack(trays[tray], scene.town, table, i);
    }

    // ---- fates

    public int fate(int table, int letter) {
        if (!isTable(table) || !isLetter(letter)) {
            return NO_SUCH;
        }
        kin.learn(scene.town, table);
        return kin.fateOf(scene.town, table, letter);
    }

    public int degree(int table, int letter) {
        if (!isTable(table) || !isLetter(letter)) {
            return NO_SUCH;
        }
        kin.learn(scene.town, table);
        if (kin.fateOf(scene.town, table, letter) != Kin.GROWS_BY_STEPS) {
            return NONE;
        }
        return kin.chainFrom(letter) - 1;
    }

    public int begins(int table) {
        if (!isTable(table)) {
            return NO_SUCH;
        }
        int bits = 0;
        for (int x = 0; x < KINDS; x++) {
            if (scene.town.sizeOf(table, x) >= 2 && scene.town.childOf(table, x, 0) == x) {
                bits |= 1 << x;
            }
        }
        return bits;
    }

    // ---- rows

    public int comes(int letter) {
        if (!isLetter(letter)) {
            return NO_SUCH;
        }
        int standing = scene.standingBits();
        // Each night that brings nothing new ends the hope of more, so there are fewer than KINDS.
        for (int night = 0; night < KINDS; night++) {
            if ((standing >> letter & 1) != 0) {
                return night;
            }
            int came = standing;
            for (int table = 0; table < scene.town.tables; table++) {
                came |= scene.town.childBitsOfAll(table, standing);
            }
            standing = came;
        }
        return NONE;
    }

    public int soonest(long n) {
        return n < 0 ? BAD_NUMBER : futures.soonestRow(scene, n);
    }

    public int way(long n, int i) {
        if (n < 0 || i < 0) {
            return BAD_NUMBER;
        }
        int nights = futures.soonestRow(scene, n);
        return i < nights ? futures.tableInRow(i) : NONE;
    }

    public int rows(long n, int k) {
        if (n < 0 || k < 0 || k > ROWS_MOST) {
            return BAD_NUMBER;
        }
        return futures.rowsOf(scene, n, k);
    }

    // ---- long

    public int longBy(int tray) {
        int refusal = refusalOfLengths(tray, NONE);
        if (refusal != 0) {
            return refusal;
        }
        return futures.rowsOfLong(scene, trays[tray]);
    }

    public int tables(int tray, int i) {
        int refusal = refusalOfLengths(tray, NONE);
        if (refusal != 0) {
            return refusal;
        }
        if (i < 0) {
            return BAD_NUMBER;
        }
        if (i >= trays[tray].size) {
            return NO_PLACE_IN_TRAY;
        }
        futures.rowsOfLong(scene, trays[tray]);
        return futures.tablesSeen(i);
    }

    public int moons(int tray) {
        int refusal = refusalOfLengths(tray, 0);
        if (refusal != 0) {
            return refusal;
        }
        int bits = 0;
        for (int moon = 0; moon <= MOON_MOST; moon++) {
            trial.copyFrom(scene);
            trial.moon = moon;
            if (isOfItself(trays[tray])) {
                bits |= 1 << moon;
            }
        }
        return bits;
    }

    private boolean isOfItself(Tray lengths) {
        for (int i = 0; i < lengths.size; i++) {
            if (trial.tryDeed(0) != 0 || trial.span != lengths.get(i)) {
                return false;
            }
        }
        return true;
    }

    public int attempt(int tray) {
        int refusal = refusalOfLengths(tray, NONE);
        if (refusal != 0) {
            return refusal;
        }
        return futures.tableToTry(scene, trays[tray]);
    }

    // ---- by turns

    public long turned(int n) {
        if (n < 0 || n > TURNS_MOST) {
            return BAD_NUMBER;
        }
        return futures.spanOfTurns(scene, n);
    }

    public int best(int n) {
        if (n < 0 || n > TURNS_MOST) {
            return BAD_NUMBER;
        }
        futures.spanOfTurns(scene, n);
        return n == 0 ? NONE : futures.tableInRow(0);
    }

    // ---- chances

    public int chance(int n, int what) {
        if (what < 0 || what > 1) {
            return NO_SUCH;
        }
        if (n < 0 || n > CHANCE_MOST) {
            return BAD_NUMBER;
        }
        long above = futures.rowsOfNothing(scene, n);
        return (int) lowestTerm(above, futures.rowsInAll(scene, n), what);
    }

    public long mean(int n, int what) {
        if (what < 0 || what > 1) {
            return NO_SUCH;
        }
        if (n < 0 || n > MEAN_MOST) {
            return BAD_NUMBER;
        }
        long above = futures.spanOfAllRows(scene, n);
        return lowestTerm(above, futures.rowsInAll(scene, n), what);
    }

    private static long lowestTerm(long above, long below, int what) {
        long a = above;
        long b = below;
        // Two steps at least halve a number, so a long's bits twice are enough.
        for (int i = 0; i < 200 && b != 0; i++) {
            long rest = a % b;
            a = b;
            b = rest;
        }
        if (a == 0) {
            return what == 0 ? 0 : 1;
        }
        return what == 0 ? above / a : below / a;
    }

    // ---- trays, images

    public int numbers(int tray, int sort, int n) {
        if (!isTray(tray) || sort < 0 || sort > 3) {
            return NO_SUCH;
        }
        if (n < 0 || n > TRAY_PLACES) {
            return BAD_NUMBER;
        }
        trays[tray].lay(sort, n);
        return 0;
    }

    public long write(int tray, int i, long v) {
        int refusal = refusalOfTray(tray);
        if (refusal != 0) {
            return refusal;
        }
        if (i < 0 || i >= trays[tray].size) {
            return NO_PLACE_IN_TRAY;
        }
        trays[tray].put(i, v);
        return trays[tray].get(i);
    }

    public int lists(int tray, long place) {
        int refusal = refusalOfTray(tray);
        if (refusal != 0) {
            return refusal;
        }
        if (place < 0 || place > scene.span) {
            return BAD_NUMBER;
        }
        Tray into = trays[tray];
        int many = (int) Math.min(into.size, scene.span - place);
        survey.measure(scene);
        for (int i = 0; i < many; i++) {
            into.put(i, survey.letterAt(scene, place + i));
        }
        return many;
    }

    public int image(int i) {
        if (i < 0 || i >= IMAGES) {
            return NO_SUCH;
        }
        if (images[i] == null) {
            images[i] = new Scene(scene.town);
        }
        images[i].copyFrom(scene);
        return 0;
    }

    public int restore(int i) {
        if (i < 0 || i >= IMAGES) {
            return NO_SUCH;
        }
        if (images[i] == null) {
            return NOT_NOW;
        }
        scene.copyFrom(images[i]);
        past.forget();
        return 0;
    }

    public int told(int what) {
        switch (what) {
            case 0:
                return scene.town.tables;
            case 1:
                return scene.moon;
            case 2:
                return scene.nights;
            case 3:
                return scene.awake;
            case 4:
                return scene.frontLetter();
            case 5:
                return scene.backLetter();
            case 6:
                return scene.kinds;
            case 7:
                return past.kept;
            case 8:
                return taped;
            case 9:
                return scene.town.lines;
            default:
                return NONE;
        }
    }

    // ---- what is refused

    private boolean isTable(int table) {
        return table >= 0 && table < scene.town.tables;
    }

    private static boolean isLetter(long letter) {
        return letter >= 0 && letter < KINDS;
    }

    private static boolean isTray(int tray) {
        return tray >= 0 && tray < TRAYS;
    }

    private int refusalOfTray(int tray) {
        if (!isTray(tray)) {
            return NO_SUCH;
        }
        return trays[tray].missing() ? TRAY_MISSING : 0;
    }

    private int refusalOfWord(int tray) {
        int refusal = refusalOfTray(tray);
        if (refusal != 0) {
            return refusal;
        }
        Tray word = trays[tray];
        if (word.size < 1 || word.size > WORD_MOST) {
            return TOO_MANY;
        }
        for (int i = 0; i < word.size; i++) {
            if (!isLetter(word.get(i))) {
                return BAD_NUMBER;
            }
        }
        return 0;
    }

    private int refusalOfReadingBack(int tray, int table) {
        return isTray(tray) && !isTable(table) ? NO_SUCH : refusalOfWord(tray);
    }

    private int refusalOfLengths(int tray, long least) {
        int refusal = refusalOfTray(tray);
        if (refusal != 0) {
            return refusal;
        }
        Tray lengths = trays[tray];
        if (lengths.size < 1 || lengths.size > LONG_MOST) {
            return TOO_MANY;
        }
        for (int i = 0; i < lengths.size; i++) {
            if (lengths.get(i) < least) {
                return BAD_NUMBER;
            }
        }
        return 0;
    }

    // ---- the classes inside

    /** A street as its text tells it; nothing of it changes once it has been read. */
    private static final class Town {
        int tables = 1;
        int moon = 0;
        int lines = 0;
        int standing = 1;
        final int[] stands = new int[STANDS_MOST];
        final int[] sizes = new int[TABLES_MOST * KINDS];
        final int[] children = new int[TABLES_MOST * KINDS * CHILDREN_MOST];
        int[] pickLaw = new int[0];
        int[] sleepLaw = new int[0];

        Town() {
            for (int rule = 0; rule < sizes.length; rule++) {
                sizes[rule] = 1;
                children[rule * CHILDREN_MOST] = rule % KINDS;
            }
        }

        int sizeOf(int table, int letter) {
            int rule = table * KINDS + letter;
            return rule >= 0 && rule < sizes.length ? sizes[rule] : 0;
        }

        int childOf(int table, int letter, int i) {
            int at = (table * KINDS + letter) * CHILDREN_MOST + i;
            return at >= 0 && at < children.length ? children[at] : 0;
        }

        int childBits(int table, int letter) {
            int size = sizeOf(table, letter);
            int bits = 0;
            for (int i = 0; i < size; i++) {
                bits |= 1 << childOf(table, letter, i);
            }
            return bits;
        }

        int childBitsOfAll(int table, int letters) {
            int bits = 0;
            for (int x = 0; x < KINDS; x++) {
                if ((letters >> x & 1) != 0) {
                    bits |= childBits(table, x);
                }
            }
            return bits;
        }
    }

    /** Reads the text of a street, token by token, as far as its first fault. */
    private static final class Reader {
        private static final int END = 0;
        private static final int WORD = 1;
        private static final int NUMBER = 2;
        private static final int SIGN = 3;
        private static final int NO_TOKEN = 4;

        private static final int FAULT_TOKEN = 1;
        private static final int FAULT_PLACE = 2;
        private static final int FAULT_BOUNDS = 3;
        private static final int FAULT_DEPTH = 4;

        private static final int DIGITS_MOST = 3;
        private static final int DEPTH_MOST = 6;
        private static final String SIGNS = ";:+-*()[]=<>";

        int fault = 0;
        int faultPlace = NONE;
        private byte[] text = new byte[0];
        private int size;
        private int kind;
        private int from;
        private int to;
        private int value;
        private final int[] oneLetter = new int[1];
        private final int[] code = new int[TEXT_MOST];
        private int coded;

        Town readTown(byte[] bytes, int n) {
            text = bytes;
            size = Math.min(n, bytes.length);
            fault = 0;
            faultPlace = NONE;
            to = 0;
            advance();
            Town town = new Town();
            boolean good = readHead(town);
            for (int i = 0; i <= size && good && kind != END; i++) {
                good = readLine(town);
            }
            return good ? town : null;
        }

        private boolean readHead(Town town) {
            if (!takeWord("street") || !takeWord("tables") || !takeNumber(1, TABLES_MOST)) {
                return false;
            }
            town.tables = value;
            if (!takeWord("moon") || !takeNumber(0, MOON_MOST)) {
                return false;
            }
            town.moon = value;
            town.lines = 1;
            return takeSign(';');
        }

        private boolean readLine(Town town) {
            boolean good;
            if (isWord("stands")) {
                good = readStands(town);
            } else if (isWord("rule")) {
                good = readRule(town);
            } else if (isWord("picks")) {
                good = openLaw() && readSum(0);
                town.pickLaw = Arrays.copyOf(code, coded);
            } else if (isWord("sleeps")) {
                good = openLaw() && readTruth(0);
                town.sleepLaw = Arrays.copyOf(code, coded);
            } else {
                good = fail(FAULT_PLACE);
            }
            town.lines++;
            return good && takeSign(';');
        }

        private boolean readStands(Town town) {
            advance();
            if (!takeLetters(STANDS_MOST, town.stands, 0)) {
                return false;
            }
            town.standing = value;
            return true;
        }

        private boolean readRule(Town town) {
            advance();
            if (!takeNumber(0, town.tables - 1)) {
                return false;
            }
            int table = value;
            if (!takeLetters(1, oneLetter, 0) || !takeSign(':')) {
                return false;
            }
            int rule = table * KINDS + oneLetter[0];
            if (rule < 0 || rule >= town.sizes.length) {
                return fail(FAULT_BOUNDS);
            }
            if (isWord("nothing")) {
                advance();
                value = 0;
            } else if (!takeLetters(CHILDREN_MOST, town.children, rule * CHILDREN_MOST)) {
                return false;
            }
            town.sizes[rule] = value;
            return true;
        }

        private boolean openLaw() {
            advance();
            coded = 0;
            return takeSign(':');
        }

        private boolean readTruth(int depth) {
            boolean good = readBoth(depth);
            for (int i = 0; i < size && good && isWord("or"); i++) {
                advance();
                good = readBoth(depth);
                encode(Law.OR);
            }
            return good;
        }

        private boolean readBoth(int depth) {
            boolean good = readUnit(depth);
            for (int i = 0; i < size && good && isWord("and"); i++) {
                advance();
                good = readUnit(depth);
                encode(Law.AND);
            }
            return good;
        }

        private boolean readUnit(int depth) {
            if (isWord("not")) {
                if (!goDeeper(depth) || !readUnit(depth + 1)) {
                    return false;
                }
                encode(Law.NOT);
                return true;
            }
            if (isSign('[')) {
                return goDeeper(depth) && readTruth(depth + 1) && takeSign(']');
            }
            if (!readSum(depth)) {
                return false;
            }
            int law = lawOfComparison();
            if (law == 0) {
                return fail(FAULT_PLACE);
            }
            advance();
            if (!readSum(depth)) {
                return false;
            }
            encode(law);
            return true;
        }

        private int lawOfComparison() {
            if (isSign('=')) {
                return Law.EQUAL;
            }
            if (isSign('<')) {
                return Law.BELOW;
            }
            return isSign('>') ? Law.ABOVE : 0;
        }

        private boolean readSum(int depth) {
            boolean good = readTerm(depth);
            for (int i = 0; i < size && good && (isSign('+') || isSign('-')); i++) {
                int law = isSign('+') ? Law.ADD : Law.TAKE;
                advance();
                good = readTerm(depth);
                encode(law);
            }
            return good;
        }

        private boolean readTerm(int depth) {
            boolean good = readAtom(depth);
            for (int i = 0; i < size && good && isSign('*'); i++) {
                advance();
                good = readAtom(depth);
                encode(Law.TIMES);
            }
            return good;
        }

        private boolean readAtom(int depth) {
            if (isSign('(')) {
                return goDeeper(depth) && readSum(depth + 1) && takeSign(')');
            }
            if (isWord("if")) {
                return goDeeper(depth) && readChoice(depth + 1);
            }
            int law = kind == NUMBER ? value : lawOfName();
            if (law == 0 && kind != NUMBER) {
                return fail(FAULT_PLACE);
            }
            encode(law);
            advance();
            return true;
        }

        private boolean readChoice(int depth) {
            boolean good = readTruth(depth) && takeWord("then") && readSum(depth)
                    && takeWord("else") && readSum(depth) && takeWord("end");
            encode(Law.CHOOSE);
            return good;
        }

        private int lawOfName() {
            if (isWord("night")) {
                return Law.NIGHT;
            }
            if (isWord("moon")) {
                return Law.MOON;
            }
            if (isWord("front")) {
                return Law.FRONT;
            }
            if (isWord("back")) {
                return Law.BACK;
            }
            return isWord("rest") ? Law.REST : 0;
        }

        private boolean goDeeper(int depth) {
            if (depth >= DEPTH_MOST) {
                return fail(FAULT_DEPTH);
            }
            advance();
            return true;
        }

        private void encode(int law) {
            if (coded < code.length) {
                code[coded] = law;
                coded++;
            }
        }

        private boolean fail(int faultOfToken) {
            fault = kind == NO_TOKEN ? FAULT_TOKEN : faultOfToken;
            faultPlace = from;
            return false;
        }

        private boolean takeWord(String word) {
            if (!isWord(word)) {
                return fail(FAULT_PLACE);
            }
            advance();
            return true;
        }

        private boolean takeSign(char sign) {
            if (!isSign(sign)) {
                return fail(FAULT_PLACE);
            }
            advance();
            return true;
        }

        private boolean takeNumber(int least, int most) {
            if (kind != NUMBER) {
                return fail(FAULT_PLACE);
            }
            if (value < least || value > most) {
                return fail(FAULT_BOUNDS);
            }
            int number = value;
            advance();
            value = number;
            return true;
        }

        /** Their numbers go into a row from a place on; value is how many there are. */
        private boolean takeLetters(int most, int[] into, int at) {
            if (kind != WORD) {
                return fail(FAULT_PLACE);
            }
            for (int i = from; i < to; i++) {
                if (text[i] > 'f') {
                    return fail(FAULT_PLACE);
                }
            }
            int many = to - from;
            if (many > most || at < 0 || at + many > into.length) {
                return fail(FAULT_BOUNDS);
            }
            for (int i = 0; i < many; i++) {
                into[at + i] = text[from + i] - 'a';
            }
            advance();
            value = many;
            return true;
        }

        private boolean isWord(String word) {
            if (kind != WORD || to - from != word.length()) {
                return false;
            }
            for (int i = 0; i < word.length(); i++) {
                if (text[from + i] != word.charAt(i)) {
                    return false;
                }
            }
            return true;
        }

        private boolean isSign(char sign) {
            return kind == SIGN && text[from] == sign;
        }

        private void advance() {
            int at = to;
            while (at < size && (text[at] == ' ' || text[at] == 10)) {
                at++;
            }
            from = at;
            to = Math.min(at + 1, size);
            if (at >= size) {
                kind = END;
            } else if (text[at] >= 'a' && text[at] <= 'z') {
                kind = WORD;
                runOn('a', 'z');
            } else if (text[at] >= '0' && text[at] <= '9') {
                runOn('0', '9');
                kind = to - from > DIGITS_MOST ? NO_TOKEN : NUMBER;
                worthOfDigits();
            } else {
                kind = text[at] > 0 && SIGNS.indexOf((char) text[at]) >= 0 ? SIGN : NO_TOKEN;
            }
        }

        private void runOn(char least, char most) {
            while (to < size && text[to] >= least && text[to] <= most) {
                to++;
            }
        }

        private void worthOfDigits() {
            value = 0;
            for (int i = from; i < to && kind == NUMBER; i++) {
                value = value * 10 + text[i] - '0';
            }
        }
    }

    /** A law is a row of numbers, each thing behind what it is made of: 0 and more are themselves. */
    private static final class Law {
        static final int NIGHT = -1;
        static final int MOON = -2;
        static final int FRONT = -3;
        static final int BACK = -4;
        static final int REST = -5;
        static final int NOT = -10;
        static final int CHOOSE = -11;
        static final int ADD = -12;
        static final int TAKE = -13;
        static final int TIMES = -14;
        static final int EQUAL = -15;
        static final int BELOW = -16;
        static final int ABOVE = -17;
        static final int AND = -18;
        static final int OR = -19;

        // Seven levels, each with at most seven numbers that wait, and the one at hand.
        static final int WAITING_MOST = 64;
        private static final long NUMBER_MOST = 1_000_000L;

        private Law() {
        }

        static int valueOf(int[] law, Scene scene) {
            int[] waiting = scene.waiting;
            int top = 0;
            for (int i = 0; i < law.length; i++) {
                int deed = law[i];
                int needs = needsOf(deed);
                if (top < needs || top - needs >= waiting.length) {
                    return 0;
                }
                top -= needs;
                if (needs == 0) {
                    waiting[top] = atomOf(deed, scene);
                } else if (needs == 1) {
                    waiting[top] = 1 - waiting[top];
                } else if (needs == 2) {
                    waiting[top] = joined(deed, waiting[top], waiting[top + 1]);
                } else {
                    waiting[top] = waiting[top] != 0 ? waiting[top + 1] : waiting[top + 2];
                }
                top++;
            }
            return waiting[0];
        }

        private static int needsOf(int deed) {
            if (deed > NOT) {
                return 0;
            }
            if (deed == NOT) {
                return 1;
            }
            return deed == CHOOSE ? 3 : 2;
        }

        private static int atomOf(int deed, Scene scene) {
            switch (deed) {
                case NIGHT:
                    return scene.nights;
                case MOON:
                    return scene.moon;
                case FRONT:
                    return scene.frontLetter();
                case BACK:
                    return scene.backLetter();
                case REST:
                    return (int) (scene.span % 10);
                default:
                    return deed;
            }
        }

        private static int joined(int deed, int a, int b) {
            switch (deed) {
                case ADD:
                    return kept((long) a + b);
                case TAKE:
                    return kept((long) a - b);
                case TIMES:
                    return kept((long) a * b);
                case EQUAL:
                    return a == b ? 1 : 0;
                case BELOW:
                    return a < b ? 1 : 0;
                case ABOVE:
                    return a > b ? 1 : 0;
                case AND:
                    return a & b;
                default:
                    return a | b;
            }
        }

        private static int kept(long number) {
            return (int) Math.max(-NUMBER_MOST, Math.min(NUMBER_MOST, number));
        }
    }

    /** A street as it is now. The letters themselves are told by the tables of the nights behind. */
    private static final class Scene {
        static final int NO_TABLE = 1;
        static final int NO_NIGHT_LEFT = 2;
        static final int TOO_LONG = 3;

        Town town;
        int moon;
        int nights;
        int awake;
        long span;
        int kinds;
        final long[] counts = new long[KINDS];
        final int[] history = new int[AWAKE_MOST];
        // The kinds by where each stands first, by where each stands last (the last one first):
        // the next night's are known from these alone, however long the street is.
        private final int[] fronts = new int[KINDS];
        private final int[] lasts = new int[KINDS];
        private final int[] nextOrder = new int[KINDS];
        private final long[] nextCounts = new long[KINDS];
        final int[] waiting = new int[Law.WAITING_MOST];

        Scene(Town first) {
            begin(first);
        }

        void begin(Town read) {
            town = read;
            moon = read.moon;
            nights = 0;
            awake = 0;
            layStart();
        }

        void copyFrom(Scene other) {
            town = other.town;
            moon = other.moon;
            nights = other.nights;
            awake = other.awake;
            span = other.span;
            kinds = other.kinds;
            System.arraycopy(other.counts, 0, counts, 0, KINDS);
            System.arraycopy(other.fronts, 0, fronts, 0, KINDS);
            System.arraycopy(other.lasts, 0, lasts, 0, KINDS);
            System.arraycopy(other.history, 0, history, 0, AWAKE_MOST);
        }

        void rewind(int awakeThen, int nightsThen, int moonThen) {
            layStart();
            awake = Math.min(awakeThen, awake);
            for (int i = 0; i < awake; i++) {
                grow(history[i]);
            }
            nights = nightsThen;
            moon = moonThen;
        }

        private void layStart() {
            Arrays.fill(counts, 0L);
            span = town.standing;
            kinds = 0;
            int kindsFromBack = 0;
            for (int i = 0; i < town.standing; i++) {
                int x = town.stands[i];
                counts[x]++;
                kinds = enlisted(fronts, kinds, x);
                kindsFromBack = enlisted(lasts, kindsFromBack, town.stands[town.standing - 1 - i]);
            }
        }

        /** A letter goes behind the others of a row, if it isn't there: how many there are then. */
        private static int enlisted(int[] order, int size, int letter) {
            for (int i = 0; i < size; i++) {
                if (order[i] == letter) {
                    return size;
                }
            }
            if (size >= order.length) {
                return size;
            }
            order[size] = letter;
            return size + 1;
        }

        /** Why a deed can't be, or 0: it is done. */
        int tryDeed(long deed) {
            if (deed == 0) {
                if (asleep()) {
                    nights++;
                    return 0;
                }
                return tryTable(pickedTable());
            }
            if (deed > 0 && deed <= town.tables) {
                return tryTable((int) deed - 1);
            }
            if (deed >= FIRST_MOON_DEED && deed <= FIRST_MOON_DEED + MOON_MOST) {
                moon = (int) deed - FIRST_MOON_DEED;
                return 0;
            }
            return NO_TABLE;
        }

        private int tryTable(int table) {
            if (awake >= AWAKE_MOST) {
                return NO_NIGHT_LEFT;
            }
            if (spanBy(table) > LENGTH_MOST) {
                return TOO_LONG;
            }
            history[awake] = table;
            awake++;
            nights++;
            grow(table);
            return 0;
        }

        boolean asleep() {
            return town.sleepLaw.length > 0 && Law.valueOf(town.sleepLaw, this) != 0;
        }

        int pickedTable() {
            if (town.pickLaw.length == 0 || town.tables < 1) {
                return 0;
            }
            return Math.floorMod(Law.valueOf(town.pickLaw, this), town.tables);
        }

        int frontLetter() {
            return kinds > 0 ? fronts[0] : KINDS;
        }

        int backLetter() {
            return kinds > 0 ? lasts[0] : KINDS;
        }

        int standingBits() {
            int bits = 0;
            for (int x = 0; x < KINDS; x++) {
                bits |= counts[x] > 0 ? 1 << x : 0;
            }
            return bits;
        }

        private long spanBy(int table) {
            long sum = 0;
            for (int x = 0; x < KINDS; x++) {
                sum += counts[x] * town.sizeOf(table, x);
            }
            return sum;
        }

        private void grow(int table) {
            span = spanBy(table);
            growCounts(table);
            int kindsNext = growOrder(fronts, table, false);
            growOrder(lasts, table, true);
            kinds = kindsNext;
        }

        private void growCounts(int table) {
            Arrays.fill(nextCounts, 0L);
            for (int x = 0; x < KINDS; x++) {
                int size = town.sizeOf(table, x);
                for (int i = 0; i < size; i++) {
                    nextCounts[town.childOf(table, x, i)] += counts[x];
                }
            }
            System.arraycopy(nextCounts, 0, counts, 0, KINDS);
        }

        private int growOrder(int[] order, int table, boolean fromBack) {
            int many = 0;
            for (int k = 0; k < kinds; k++) {
                int x = order[k];
                int size = town.sizeOf(table, x);
                for (int i = 0; i < size; i++) {
                    int child = town.childOf(table, x, fromBack ? size - 1 - i : i);
                    many = enlisted(nextOrder, many, child);
                }
            }
            System.arraycopy(nextOrder, 0, order, 0, KINDS);
            return many;
        }
    }

    /** What calls can be undone: nights only ever come behind others, so how many there were is enough. */
    private static final class Past {
        private static final int KEPT_MOST = 10;

        int kept = 0;
        // One more for the mark of a call of which it isn't known yet whether it does anything.
        private final int[] awakes = new int[KEPT_MOST + 1];
        private final int[] nightsThen = new int[KEPT_MOST + 1];
        private final int[] moonsThen = new int[KEPT_MOST + 1];

        void forget() {
            kept = 0;
        }

        void mark(Scene scene) {
            awakes[kept] = scene.awake;
            nightsThen[kept] = scene.nights;
            moonsThen[kept] = scene.moon;
        }

        void keepMark() {
            if (kept < KEPT_MOST) {
                kept++;
                return;
            }
            System.arraycopy(awakes, 1, awakes, 0, KEPT_MOST);
            System.arraycopy(nightsThen, 1, nightsThen, 0, KEPT_MOST);
            System.arraycopy(moonsThen, 1, moonsThen, 0, KEPT_MOST);
        }

        void goBack(Scene scene, int calls) {
            int to = kept - calls;
            if (to < 0) {
                return;
            }
            scene.rewind(awakes[to], nightsThen[to], moonsThen[to]);
            kept = to;
        }
    }

    /** Finds places: how much of each letter of each night there is in the end, told from the end. */
    private static final class Survey {
        final long[] spans = new long[(AWAKE_MOST + 1) * KINDS];
        private final long[] shares = new long[(AWAKE_MOST + 1) * KINDS];
        private long left;
        private long passed;

        void measure(Scene scene) {
            fill(scene, spans, NONE);
        }

        int letterAt(Scene scene, long place) {
            return descend(scene, spans, spans, place);
        }

        long countAhead(Scene scene, int letter, long place) {
            fill(scene, shares, letter);
            descend(scene, spans, shares, place);
            return passed;
        }

        long placeOf(Scene scene, int letter, long ahead) {
            fill(scene, shares, letter);
            descend(scene, shares, spans, ahead);
            return passed;
        }

        private static void fill(Scene scene, long[] into, int letter) {
            Town town = scene.town;
            for (int x = 0; x < KINDS; x++) {
                into[scene.awake * KINDS + x] = letter == NONE || letter == x ? 1 : 0;
            }
            for (int level = scene.awake - 1; level >= 0; level--) {
                int table = scene.history[level];
                int below = (level + 1) * KINDS;
                for (int x = 0; x < KINDS; x++) {
                    int size = town.sizeOf(table, x);
                    long sum = 0;
                    for (int i = 0; i < size; i++) {
                        sum += into[below + town.childOf(table, x, i)];
                    }
                    into[level * KINDS + x] = Math.min(sum, KEPT_BELOW);
                }
            }
        }

        /** The letter in which the weight is that has k ahead of it; passed is what goes by till there. */
        private int descend(Scene scene, long[] weights, long[] going, long k) {
            left = k;
            passed = 0;
            int letter = NONE;
            for (int i = 0; i < scene.town.standing && letter == NONE; i++) {
                int x = scene.town.stands[i];
                letter = isWithin(weights, going, x) ? x : NONE;
            }
            for (int level = 0; level < scene.awake && letter != NONE; level++) {
                letter = childWithin(scene, level, letter, weights, going);
            }
            return letter;
        }

        private int childWithin(Scene scene, int level, int letter, long[] weights, long[] going) {
            int table = scene.history[level];
            int size = scene.town.sizeOf(table, letter);
            for (int i = 0; i < size; i++) {
                int child = scene.town.childOf(table, letter, i);
                if (isWithin(weights, going, (level + 1) * KINDS + child)) {
                    return child;
                }
            }
            return NONE;
        }

        private boolean isWithin(long[] weights, long[] going, int at) {
            if (left < weights[at]) {
                return true;
            }
            left -= weights[at];
            passed += going[at];
            return false;
        }
    }

    /** Finds words by how much of them stands at the end of what has been read, a number below their size. */
    private static final class Finder {
        private final int[] word = new int[WORD_MOST];
        private int size;
        private final int[] fallback = new int[WORD_MOST + 1];
        // By night, letter and state: the state behind all that becomes of the letter, the words ended in it.
        private final byte[] states = new byte[(AWAKE_MOST + 1) * KINDS * WORD_MOST];
        private final long[] hits = new long[(AWAKE_MOST + 1) * KINDS * WORD_MOST];
        private int state;
        private long passed;
        final int[] waysBack = new int[WORD_MOST + 1];

        private static int cellOf(int level, int letter, int state) {
            return (level * KINDS + letter) * WORD_MOST + state;
        }

        void learn(Tray tray) {
            size = Math.min(tray.size, WORD_MOST);
            for (int i = 0; i < size; i++) {
                word[i] = (int) tray.get(i);
            }
            fallback[0] = 0;
            fallback[1] = 0;
            for (int matched = 1; matched < size; matched++) {
                fallback[matched + 1] = behind(fallback[matched], word[matched]);
            }
        }

        /** How much of the word stands behind one letter more. */
        private int behind(int matched, int letter) {
            int now = Math.min(matched, WORD_MOST - 1);
            for (int i = 0; i < WORD_MOST && now > 0 && word[now] != letter; i++) {
                now = fallback[now];
            }
            return word[now] == letter ? now + 1 : 0;
        }

        void search(Scene scene) {
            for (int x = 0; x < KINDS; x++) {
                for (int s = 0; s < size; s++) {
                    int next = behind(s, x);
                    int cell = cellOf(scene.awake, x, s);
                    states[cell] = (byte) (next == size ? fallback[size] : next);
                    hits[cell] = next == size ? 1 : 0;
                }
            }
            for (int level = scene.awake - 1; level >= 0; level--) {
                for (int x = 0; x < KINDS; x++) {
                    searchLetter(scene, level, x);
                }
            }
        }

        private void searchLetter(Scene scene, int level, int letter) {
            int table = scene.history[level];
            int many = scene.town.sizeOf(table, letter);
            for (int s = 0; s < size; s++) {
                int now = s;
                long sum = 0;
                for (int i = 0; i < many; i++) {
                    int cell = cellOf(level + 1, scene.town.childOf(table, letter, i), now);
                    sum += hits[cell];
                    now = states[cell];
                }
                int cell = cellOf(level, letter, s);
                states[cell] = (byte) now;
                hits[cell] = Math.min(sum, KEPT_BELOW);
            }
        }

        long hitsInAll(Scene scene) {
            long sum = 0;
            int now = 0;
            for (int i = 0; i < scene.town.standing; i++) {
                int cell = cellOf(0, scene.town.stands[i], now);
                sum += hits[cell];
                now = states[cell];
            }
            return sum;
        }

        long firstPlace(Scene scene, long[] spans) {
            state = 0;
            passed = 0;
            int letter = NONE;
            for (int i = 0; i < scene.town.standing && letter == NONE; i++) {
                int x = scene.town.stands[i];
                letter = isHit(0, x, spans) ? x : NONE;
            }
            for (int level = 0; level < scene.awake && letter != NONE; level++) {
                letter = childHit(scene, level, letter, spans);
            }
            return letter == NONE ? NONE : passed + 1 - size;
        }

        private int childHit(Scene scene, int level, int letter, long[] spans) {
            int table = scene.history[level];
            int many = scene.town.sizeOf(table, letter);
            for (int i = 0; i < many; i++) {
                int child = scene.town.childOf(table, letter, i);
                if (isHit(level + 1, child, spans)) {
                    return child;
                }
            }
            return NONE;
        }

        private boolean isHit(int level, int letter, long[] spans) {
            int cell = cellOf(level, letter, state);
            if (hits[cell] > 0) {
                return true;
            }
            state = states[cell];
            passed += spans[level * KINDS + letter];
            return false;
        }

        /** In how many ways what stands from each place of the word on can be read back. */
        void readBack(Tray tray, Town town, int table) {
            int end = Math.min(tray.size, WORD_MOST);
            waysBack[end] = 1;
            for (int at = end - 1; at >= 0; at--) {
                int ways = 0;
                for (int x = 0; x < KINDS; x++) {
                    if (standsAt(tray, at, town, table, x)) {
                        ways += waysBack[at + town.sizeOf(table, x)];
                    }
                }
                waysBack[at] = ways;
            }
        }

        /** The i-th letter of the first way, by the ways that readBack() found. */
        int letterBack(Tray tray, Town town, int table, int i) {
            int at = 0;
            for (int read = 0; read <= WORD_MOST && at < tray.size; read++) {
                int least = NONE;
                for (int x = 0; x < KINDS && least == NONE; x++) {
                    boolean fits = standsAt(tray, at, town, table, x);
                    least = fits && waysBack[at + town.sizeOf(table, x)] > 0 ? x : NONE;
                }
                if (least == NONE || read == i) {
                    return least;
                }
                at += town.sizeOf(table, least);
            }
            return NONE;
        }

        private static boolean standsAt(Tray tray, int at, Town town, int table, int letter) {
            int many = town.sizeOf(table, letter);
            if (many == 0 || at + many > tray.size) {
                return false;
            }
            for (int i = 0; i < many; i++) {
                if (tray.get(at + i) != town.childOf(table, letter, i)) {
                    return false;
                }
            }
            return true;
        }
    }

    /** Which letters come to which by one table, and what follows from that. */
    private static final class Kin {
        static final int DIES_OUT = 0;
        static final int STAYS = 1;
        static final int GROWS_BY_STEPS = 2;
        static final int DOUBLES = 3;

        private final int[] comesTo = new int[KINDS];
        private final int[] chains = new int[KINDS];

        void learn(Town town, int table) {
            for (int x = 0; x < KINDS; x++) {
                comesTo[x] = town.childBits(table, x);
            }
            for (int over = 0; over < KINDS; over++) {
                for (int x = 0; x < KINDS; x++) {
                    if (reaches(x, over)) {
                        comesTo[x] |= comesTo[over];
                    }
                }
            }
            learnChains();
        }

        private boolean reaches(int from, int to) {
            return (comesTo[from] >> to & 1) != 0;
        }

        private void learnChains() {
            Arrays.fill(chains, 0);
            // A chain grows by one a round at least, and has no letter twice.
            for (int round = 0; round < KINDS; round++) {
                for (int x = 0; x < KINDS; x++) {
                    if (reaches(x, x)) {
                        chains[x] = 1 + longestBehind(x);
                    }
                }
            }
        }

        private int longestBehind(int letter) {
            int longest = 0;
            for (int y = 0; y < KINDS; y++) {
                if (reaches(letter, y) && !reaches(y, letter)) {
                    longest = Math.max(longest, chains[y]);
                }
            }
            return longest;
        }

        /** Of letters that come to themselves again, one behind the other, the most. */
        int chainFrom(int letter) {
            int longest = chains[letter];
            for (int y = 0; y < KINDS; y++) {
                if (reaches(letter, y)) {
                    longest = Math.max(longest, chains[y]);
                }
            }
            return longest;
        }

        int fateOf(Town town, int table, int letter) {
            int chain = chainFrom(letter);
            if (chain == 0) {
                return DIES_OUT;
            }
            for (int y = 0; y < KINDS; y++) {
                if ((y == letter || reaches(letter, y)) && doubles(town, table, y)) {
                    return DOUBLES;
                }
            }
            return chain == 1 ? STAYS : GROWS_BY_STEPS;
        }

        private boolean doubles(Town town, int table, int letter) {
            int size = town.sizeOf(table, letter);
            int again = 0;
            for (int i = 0; i < size; i++) {
                int child = town.childOf(table, letter, i);
                if (child == letter || reaches(child, letter)) {
                    again++;
                }
            }
            return again >= 2;
        }
    }

    /** Nights by tables from now on, for which no limit but that of each call holds. */
    private static final class Futures {
        private static final int DEEPEST = LONG_MOST;

        private Town town;
        private final long[] counts = new long[(DEEPEST + 1) * KINDS];
        private final int[] row = new int[DEEPEST];
        private final int[] seen = new int[LONG_MOST];
        private final Tally tally = new Tally();
        private boolean tallying;
        private int[] waysNow = new int[1 << KINDS];
        private int[] waysNext = new int[1 << KINDS];

        Futures(Town first) {
            town = first;
        }

        private void begin(Scene scene) {
            town = scene.town;
            System.arraycopy(scene.counts, 0, counts, 0, KINDS);
        }

        int tableInRow(int i) {
            return i >= 0 && i < row.length ? row[i] : NONE;
        }

        int tablesSeen(int i) {
            return i >= 0 && i < seen.length ? seen[i] : 0;
        }

        private long spanAt(int depth) {
            long sum = 0;
            for (int x = 0; x < KINDS; x++) {
                sum += counts[depth * KINDS + x];
            }
            return sum;
        }

        private long spanBy(int depth, int table) {
            int at = depth * KINDS;
            int rule = table * KINDS;
            long sum = 0;
            for (int x = 0; x < KINDS; x++) {
                sum += counts[at + x] * town.sizes[rule + x];
            }
            return sum;
        }

        private void clear(int depth) {
            Arrays.fill(counts, depth * KINDS, (depth + 1) * KINDS, 0L);
        }

        /** What stands behind one night more comes to what is counted there. */
        private void addNight(int depth, int table) {
            int from = depth * KINDS;
            int to = from + KINDS;
            for (int x = 0; x < KINDS; x++) {
                int rule = table * KINDS + x;
                long many = counts[from + x];
                int size = many == 0 ? 0 : town.sizes[rule];
                for (int i = 0; i < size; i++) {
                    counts[to + town.children[rule * CHILDREN_MOST + i]] += many;
                }
            }
        }

        private void passNight(int depth, int table) {
            clear(depth + 1);
            addNight(depth, table);
        }

        /** How many nights the soonest row has, which stands in row then. */
        int soonestRow(Scene scene, long n) {
            begin(scene);
            for (int nights = 0; nights <= SOONEST_MOST; nights++) {
                if (findRow(n, nights, 0)) {
                    return nights;
                }
            }
            return NONE;
        }

        private boolean findRow(long n, int nights, int depth) {
            if (depth >= nights || depth >= DEEPEST) {
                return spanAt(depth) == n;
            }
            for (int table = 0; table < town.tables; table++) {
                row[depth] = table;
                if (depth == nights - 1) {
                    if (spanBy(depth, table) == n) {
                        return true;
                    }
                } else {
                    passNight(depth, table);
                    if (findRow(n, nights, depth + 1)) {
                        return true;
                    }
                }
            }
            return false;
        }

        int rowsOf(Scene scene, long n, int nights) {
            begin(scene);
            return rowsFrom(n, nights, 0);
        }

        private int rowsFrom(long n, int nights, int depth) {
            if (depth >= nights || depth >= DEEPEST) {
                return spanAt(depth) == n ? 1 : 0;
            }
            int many = 0;
            for (int table = 0; table < town.tables; table++) {
                if (depth == nights - 1) {
                    many += spanBy(depth, table) == n ? 1 : 0;
                } else {
                    passNight(depth, table);
                    many += rowsFrom(n, nights, depth + 1);
                }
            }
            return many;
        }

        int rowsOfLong(Scene scene, Tray lengths) {
            begin(scene);
            tallying = false;
            Arrays.fill(seen, 0);
            return longFrom(lengths, 0);
        }

        private int longFrom(Tray lengths, int depth) {
            if (depth >= lengths.size || depth >= DEEPEST) {
                return 1;
            }
            long wanted = lengths.get(depth);
            boolean last = depth == lengths.size - 1;
            int many = 0;
            for (int table = 0; table < town.tables; table++) {
                if (wanted != NONE && wanted != spanBy(depth, table)) {
                    continue;
                }
                if (!last || tallying) {
                    passNight(depth, table);
                }
                if (last && tallying) {
                    tallyNext(depth + 1);
                }
                int behind = last ? 1 : longFrom(lengths, depth + 1);
                seen[depth] |= behind > 0 ? 1 << table : 0;
                many += behind;
            }
            return many;
        }

        private void tallyNext(int depth) {
            for (int table = 0; table < town.tables; table++) {
                tally.add(spanBy(depth, table), table);
            }
        }

        int tableToTry(Scene scene, Tray lengths) {
            int many = rowsOfLong(scene, lengths);
            if (many == 0) {
                return NONE;
            }
            tally.clear(many * town.tables);
            tallying = true;
            longFrom(lengths, 0);
            int least = 0;
            for (int table = 1; table < town.tables; table++) {
                if (tally.greatest(table) < tally.greatest(least)) {
                    least = table;
                }
            }
            return least;
        }

        /** The length in the end; row[0] is the first table by which the first one does best. */
        long spanOfTurns(Scene scene, int nights) {
            begin(scene);
            return spanByTurns(nights, 0);
        }

        private long spanByTurns(int nights, int depth) {
            if (depth >= nights || depth >= DEEPEST) {
                return spanAt(depth);
            }
            boolean forMore = depth % 2 == 0;
            long bestSpan = 0;
            int bestTable = 0;
            for (int table = 0; table < town.tables; table++) {
                long span;
                if (depth == nights - 1) {
                    span = spanBy(depth, table);
                } else {
                    passNight(depth, table);
                    span = spanByTurns(nights, depth + 1);
                }
                if (table == 0 || (forMore ? span > bestSpan : span < bestSpan)) {
                    bestSpan = span;
                    bestTable = table;
                }
            }
            row[depth] = bestTable;
            return bestSpan;
        }

        long rowsInAll(Scene scene, int nights) {
            long many = 1;
            for (int i = 0; i < nights; i++) {
                many *= scene.town.tables;
            }
            return many;
        }

        /** Whether anything is left hangs only on which kinds stand there, so rows are counted by these. */
        long rowsOfNothing(Scene scene, int nights) {
            Arrays.fill(waysNow, 0);
            waysNow[scene.standingBits()] = 1;
            for (int night = 0; night < nights; night++) {
                Arrays.fill(waysNext, 0);
                for (int kinds = 0; kinds < waysNow.length; kinds++) {
                    if (waysNow[kinds] != 0) {
                        spreadWays(scene.town, kinds);
                    }
                }
                int[] was = waysNow;
                waysNow = waysNext;
                waysNext = was;
            }
            return waysNow[0];
        }

        private void spreadWays(Town of, int kinds) {
            for (int table = 0; table < of.tables; table++) {
                waysNext[of.childBitsOfAll(table, kinds)] += waysNow[kinds];
            }
        }

        long spanOfAllRows(Scene scene, int nights) {
            begin(scene);
            int deep = Math.min(nights, DEEPEST);
            for (int night = 0; night < deep; night++) {
                clear(night + 1);
                for (int table = 0; table < town.tables; table++) {
                    addNight(night, table);
                }
            }
            return spanAt(deep);
        }
    }

    /** Counts how often each length comes by each table. */
    private static final class Tally {
        private long[] keys = new long[64];
        private int[] times = new int[64];
        private int slots = 64;
        private final int[] most = new int[TABLES_MOST];

        void clear(int entries) {
            slots = 64;
            // A quarter more than there can be keeps the ways to a free slot short.
            for (int i = 0; i < 20 && slots < entries + entries / 4; i++) {
                slots *= 2;
            }
            if (slots > keys.length) {
                keys = new long[slots];
                times = new int[slots];
            }
            Arrays.fill(times, 0, slots, 0);
            Arrays.fill(most, 0);
        }

        void add(long span, int table) {
            if (table < 0 || table >= TABLES_MOST) {
                return;
            }
            long key = span * TABLES_MOST + table;
            int slot = slotOf(key);
            for (int i = 0; i < slots && times[slot] != 0 && keys[slot] != key; i++) {
                slot = slot + 1 & slots - 1;
            }
            keys[slot] = key;
            times[slot]++;
            most[table] = Math.max(most[table], times[slot]);
        }

        private int slotOf(long key) {
            return (int) (key * 0x9E3779B97F4A7C15L >>> 40) & slots - 1;
        }

        int greatest(int table) {
            return table >= 0 && table < TABLES_MOST ? most[table] : 0;
        }
    }

    /** Numbers that calls write and read, each cut to the tray's sort. */
    private static final class Tray {
        int size = NONE;
        private int sort;
        private final long[] values = new long[TRAY_PLACES];

        boolean missing() {
            return size == NONE;
        }

        void lay(int newSort, int n) {
            sort = newSort;
            size = Math.max(0, Math.min(n, TRAY_PLACES));
            Arrays.fill(values, 0L);
        }

        long get(int i) {
            return i >= 0 && i < size ? values[i] : 0;
        }

        void put(int i, long v) {
            if (i >= 0 && i < size) {
                values[i] = cut(v);
            }
        }

        private long cut(long v) {
            switch (sort) {
                case 0:
                    return (byte) v;
                case 1:
                    return (short) v;
                case 2:
                    return (int) v;
                default:
                    return v;
            }
        }
    }
}
