/**
 * Sheets of handwriting, the marks by which they are compared, and the oaths that are sworn of them.
 *
 * Every index, divisor and reference is tested before it is used, so the Java machine itself never
 * throws in here. All rows are made with the object and used again: only lay() makes a new sheet.
 */
public final class SlantOaths {
    public static final int NONE = -1;

    private static final int MOST_SHEETS = 8;
    private static final int MOST_STROKES = 8;
    private static final int MOST_OATHS = 28;
    private static final int MOST_CODES = 60;
    private static final int MOST_SAVED = 6;
    private static final int MOST_YEARS = 99;

    private static final int STROKE_NUMBERS = 5;
    private static final int SLANT = 0;
    private static final int HEIGHT = 1;
    private static final int LOOP = 2;
    private static final int PRESSURE = 3;
    private static final int TREMOR = 4;

    private static final int MARKS = 6;
    private static final int FADING_MARKS = (1 << 2) | (1 << 3);

    private static final int SETTINGS = 9;
    private static final int FADING_AGE = 6;
    private static final int TREMOR_LIMIT = 7;
    private static final int LEAST_LIKENESS = 8;
    private static final int[] FIRST_SETTINGS = {4, 10, 3, 20, 8, 6, 40, 2, 4};
    private static final int[] MOST_OF_SETTING = {50, 50, 50, 50, 50, 50, 99, 9, 6};

    private static final int SHEET_NUMBERS = 7;
    private static final int COMPARISONS = 5;
    private static final int OATH_NUMBERS = 4;
    private static final int COUNTS = 18;
    private static final int FIRST_SETTING_COUNT = 8;
    private static final int SAVED_COUNT = 17;

    private static final int SAME_SHEET = 1;
    private static final int ALREADY_SWORN = 2;
    private static final int TREMBLES = 3;
    private static final int TOO_UNLIKE = 4;
    private static final int AGAINST_AN_OATH = 5;
    private static final int OF_ONE_HAND = 6;
    private static final int NO_SUCH_SHEET = 7;

    private static final long FIRST_HASH = 3919L;
    private static final long EXPONENT_OF_ONE = 1023L;
    private static final int FRACTION_BITS = 52;

    private final Text text;
    private final Table table;
    private final History history;
    private final Table snapshot;
    private boolean hasSnapshot;

    public SlantOaths() {
        text = new Text();
        table = new Table();
        history = new History();
        snapshot = new Table();
        hasSnapshot = false;
    }

    // ---- sheets

    public int lay(int age) throws IllegalArgumentException, IllegalStateException {
        if (age < 0 || age > MOST_YEARS || !text.readSheet()) {
            throw new IllegalArgumentException("no complete sheet in the buffer, or no such age");
        }
        if (table.size >= MOST_SHEETS) {
            throw new IllegalStateException("the table is full");
        }
        history.save(table);
        Sheet laid = new Sheet(text.strokes, text.numbers);
        laid.reckonMarks();
        int number = table.putDown(laid, age);
        text.empty();
        return number;
    }

    public int drop(int sheet) throws IndexOutOfBoundsException {
        if (!isThere(sheet)) {
            throw new IndexOutOfBoundsException("no such sheet");
        }
        history.save(table);
        return table.takeAway(sheet);
    }

    public int pass(int years) throws IllegalArgumentException {
        if (years < 1 || years > MOST_YEARS) {
            throw new IllegalArgumentException("years are 1 to 99");
        }
        history.save(table);
        return table.growOlder(years);
    }

    public int set(int setting, int value) throws IndexOutOfBoundsException, IllegalArgumentException {
        if (setting < 0 || setting >= SETTINGS || setting >= MOST_OF_SETTING.length) {
            throw new IndexOutOfBoundsException("no such setting");
        }
        if (value < 0 || value > MOST_OF_SETTING[setting]) {
            throw new IllegalArgumentException("no such value of this setting");
        }
        history.save(table);
        int previous = table.settings.at(setting);
        table.settings.put(setting, value);
        return previous;
    }

    // ---- oaths

    public int swear(int sheet, int other, boolean isLike)
            throws IndexOutOfBoundsException, IllegalStateException {
        if (!areThere(sheet, other)) {
            throw new IndexOutOfBoundsException("no such sheet");
        }
        if (table.reasonAgainst(sheet, other, isLike) != 0) {
            throw new IllegalStateException("this cannot be sworn");
        }
        history.save(table);
        table.oaths.add(sheet, other, isLike);
        return table.hands();
    }

    public int recant(int sheet, int other) throws IndexOutOfBoundsException {
        if (!areThere(sheet, other)) {
            throw new IndexOutOfBoundsException("no such sheet");
        }
        history.save(table);
        int place = table.oaths.placeOf(sheet, other);
        if (place == NONE) {
            return 0;
        }
        table.oaths.removeAt(place);
        return 1;
    }

    // ---- texts

    public int append(int code) throws IllegalArgumentException, IllegalStateException {
        if (code < 33 || code > 126) {
            throw new IllegalArgumentException("character codes are 33 to 126");
        }
        if (text.length >= MOST_CODES) {
            throw new IllegalStateException("the buffer is full");
        }
        return text.add(code);
    }

    public int clearBuffer() {
        int length = text.length;
        text.empty();
        return length;
    }

    public int firstError(boolean areWorks) {
        if (areWorks) {
            text.readWorks();
        } else {
            text.readSheet();
        }
        return text.place;
    }

    public int work() throws IllegalArgumentException {
        if (!text.readWorks()) {
            throw new IllegalArgumentException("no complete works in the buffer");
        }
        history.save(table);
        table.forgetStop();
        int done = 0;
        while (done < text.parts && doPart(done)) {
            done++;
        }
        text.empty();
        return done;
    }

    public int stopped(int what) throws IllegalArgumentException {
        if (what != 0 && what != 1) {
            throw new IllegalArgumentException("what is 0 or 1");
        }
        return what == 0 ? table.stopPart : table.stopReason;
    }

    // ---- undo, the snapshot

    public int undo() throws IllegalStateException {
        if (history.size <= 0) {
            throw new IllegalStateException("no state is saved");
        }
        history.bringBack(table);
        return history.size;
    }

    public int keep() {
        snapshot.takeOver(table);
        hasSnapshot = true;
        return table.size;
    }

    public int restore() throws IllegalStateException {
        if (!hasSnapshot) {
            throw new IllegalStateException("there is no snapshot");
        }
        history.save(table);
        table.takeOver(snapshot);
        return table.size;
    }

    // ---- looks; nothing is changed

    public int sheet(int sheet, int what) throws IndexOutOfBoundsException, IllegalArgumentException {
        if (!isThere(sheet)) {
            throw new IndexOutOfBoundsException("no such sheet");
        }
        if (what < 0 || what >= SHEET_NUMBERS) {
            throw new IllegalArgumentException("what is 0 to 6");
        }
        return table.numberOfSheet(sheet, what);
    }

    public int stroke(int sheet, int stroke, int what)
            throws IndexOutOfBoundsException, IllegalArgumentException {
        if (!isThere(sheet)) {
            throw new IndexOutOfBoundsException("no such sheet");
        }
        if (stroke < 0 || stroke >= MOST_STROKES || what < 0 || what >= STROKE_NUMBERS) {
            throw new IllegalArgumentException("strokes are 0 to 7, what is 0 to 4");
        }
        return table.sheetAt(sheet).toldNumber(stroke, what);
    }

    public int mark(int sheet, int mark) throws IndexOutOfBoundsException, IllegalArgumentException {
        if (!isThere(sheet)) {
            throw new IndexOutOfBoundsException("no such sheet");
        }
        if (mark < 0 || mark >= MARKS) {
            throw new IllegalArgumentException("marks are 0 to 5");
        }
        return table.sheetAt(sheet).toldMark(mark);
    }

    public int compare(int sheet, int other, int what)
            throws IndexOutOfBoundsException, IllegalArgumentException {
        if (!areThere(sheet, other)) {
            throw new IndexOutOfBoundsException("no such sheet");
        }
        if (what < 0 || what >= COMPARISONS) {
            throw new IllegalArgumentException("what is 0 to 4");
        }
        return table.comparison(sheet, other, what);
    }

    public int oath(int oath, int what) throws IllegalArgumentException {
        if (oath < 0 || what < 0 || what >= OATH_NUMBERS) {
            throw new IllegalArgumentException("oaths are 0 or more, what is 0 to 3");
        }
        return oath < table.oaths.size ? table.oaths.numberOf(oath, what) : NONE;
    }

    public int count(int what) throws IllegalArgumentException {
        if (what < 0 || what >= COUNTS) {
            throw new IllegalArgumentException("what is 0 to 17");
        }
        return toldCount(what);
    }

    // ---- what would be; nothing is changed

    public int whyNot(int sheet, int other, boolean isLike) throws IndexOutOfBoundsException {
        if (!areThere(sheet, other)) {
            throw new IndexOutOfBoundsException("no such sheet");
        }
        return table.reasonAgainst(sheet, other, isLike);
    }

    public int nearest(int sheet) throws IndexOutOfBoundsException {
        if (!isThere(sheet)) {
            throw new IndexOutOfBoundsException("no such sheet");
        }
        return table.mostAlike(sheet);
    }

    public int toleranceFor(int sheet, int other, int mark)
            throws IndexOutOfBoundsException, IllegalArgumentException {
        if (!areThere(sheet, other)) {
            throw new IndexOutOfBoundsException("no such sheet");
        }
        if (mark < 0 || mark >= MARKS) {
            throw new IllegalArgumentException("marks are 0 to 5");
        }
        return table.neededTolerance(sheet, other, mark);
    }

    public int ifPassed(int sheet, int other, int years)
            throws IndexOutOfBoundsException, IllegalArgumentException {
        if (!areThere(sheet, other)) {
            throw new IndexOutOfBoundsException("no such sheet");
        }
        if (years < 1 || years > MOST_YEARS) {
            throw new IllegalArgumentException("years are 1 to 99");
        }
        return table.likeness(sheet, other, years);
    }

    public double handShare() {
        return table.shareOfHands();
    }

    public long digest() {
        long hash = FIRST_HASH;
        for (int what = 0; what < COUNTS; what++) {
            hash = mix(hash, toldCount(what));
        }
        for (int i = 0; i < table.size && i < MOST_SHEETS; i++) {
            hash = mixSheet(hash, i);
            for (int other = 0; other < table.size && other < MOST_SHEETS; other++) {
                hash = mixPair(hash, i, other);
            }
        }
        for (int k = 0; k < table.oaths.size && k < MOST_OATHS; k++) {
            for (int what = 0; what < OATH_NUMBERS; what++) {
                hash = mix(hash, table.oaths.numberOf(k, what));
            }
        }
        hash = mix(hash, table.stopPart);
        hash = mix(hash, table.stopReason);
        hash = mix(hash, bitsOf(table.shareOfHands()));
        return text.mixInto(hash);
    }

    private boolean isThere(int sheet) {
        return sheet >= 0 && sheet < table.size;
    }

    private boolean areThere(int sheet, int other) {
        return isThere(sheet) && isThere(other);
    }

    /** Does a part of the works; if it can't be done, notes the stop and answers false. */
    private boolean doPart(int part) {
        int first = text.firsts.at(part);
        int second = text.seconds.at(part);
        int reason = 0;
        switch (text.kinds.at(part)) {
            case 'y':
                table.growOlder(first);
                break;
            case 'd':
                reason = isThere(first) ? 0 : NO_SUCH_SHEET;
                if (reason == 0) {
                    table.takeAway(first);
                }
                break;
            case 'l':
                reason = swearPart(first, second, true);
                break;
            default:
                reason = swearPart(first, second, false);
                break;
        }
        if (reason != 0) {
            table.stopPart = part;
            table.stopReason = reason;
        }
        return reason == 0;
    }

    private int swearPart(int sheet, int other, boolean isLike) {
        if (!areThere(sheet, other)) {
            return NO_SUCH_SHEET;
        }
        int reason = table.reasonAgainst(sheet, other, isLike);
        if (reason == 0) {
            table.oaths.add(sheet, other, isLike);
        }
        return reason;
    }

    private int toldCount(int what) {
        if (what == SAVED_COUNT) {
            return history.size;
        }
        if (what >= FIRST_SETTING_COUNT) {
            return table.settings.at(what - FIRST_SETTING_COUNT);
        }
        return table.numberOfAll(what);
    }

    private long mixSheet(long before, int sheet) {
        long hash = before;
        for (int what = 0; what < SHEET_NUMBERS; what++) {
            hash = mix(hash, table.numberOfSheet(sheet, what));
        }
        hash = table.sheetAt(sheet).mixInto(hash);
        return mix(hash, table.mostAlike(sheet));
    }

    private long mixPair(long before, int sheet, int other) {
        long hash = before;
        for (int what = 0; what < COMPARISONS; what++) {
            hash = mix(hash, table.comparison(sheet, other, what));
        }
        hash = mix(hash, table.reasonAgainst(sheet, other, true));
        return mix(hash, table.reasonAgainst(sheet, other, false));
    }

    private static long mix(long hash, long value) {
        return 31L * hash + value;
    }

    /**
     * The bits of a double from 0 to 1, as Double.doubleToLongBits tells them; that function is not in
     * the library that the program may use. Doubling and taking 1 away are exact, so no bit is lost.
     */
    private static long bitsOf(double share) {
        if (share <= 0.0) {
            return 0L;
        }
        double fraction = share;
        long exponent = EXPONENT_OF_ONE;
        while (fraction < 1.0 && exponent > 1L) {
            fraction = fraction * 2.0;
            exponent--;
        }
        return (exponent << FRACTION_BITS) + (long) ((fraction - 1.0) * (double) (1L << FRACTION_BITS));
    }

    /** A row of numbers, each place of which is tested before it is used; there is 0 beside it. */
    private static final class Row {
        private final int[] cells;

        Row(int length) {
            cells = new int[length < 0 ? 0 : length];
        }

        int at(int place) {
            return place >= 0 && place < cells.length ? cells[place] : 0;
        }

        void put(int place, int value) {
            if (place >= 0 && place < cells.length) {
                cells[place] = value;
            }
        }

        void copyFrom(Row from) {
            if (from == null) {
                return;
            }
            for (int i = 0; i < cells.length && i < from.cells.length; i++) {
                cells[i] = from.cells[i];
            }
        }

        void closeUp(int gone) {
            for (int i = gone < 0 ? 0 : gone; i < cells.length - 1; i++) {
                cells[i] = cells[i + 1];
            }
        }
    }

    /** The buffer, and what was read from it: a sheet's strokes, or the parts of works. */
    private static final class Text {
        private final Row codes = new Row(MOST_CODES);
        private int length;
        private int place;
        private boolean isBroken;
        private final Row numbers = new Row(MOST_STROKES * STROKE_NUMBERS);
        private int strokes;
        private final Row kinds = new Row(MOST_CODES);
        private final Row firsts = new Row(MOST_CODES);
        private final Row seconds = new Row(MOST_CODES);
        private int parts;

        int add(int code) {
            if (length < MOST_CODES) {
                codes.put(length, code);
                length++;
            }
            return length;
        }

        void empty() {
            length = 0;
        }

        long mixInto(long before) {
            long hash = mix(before, length);
            for (int i = 0; i < length && i < MOST_CODES; i++) {
                hash = mix(hash, codes.at(i));
            }
            return hash;
        }

        /** Reads a sheet up to the first error, and answers whether it is complete. */
        boolean readSheet() {
            begin();
            readStroke();
            for (int n = 1; n < MOST_STROKES && skip(','); n++) {
                readStroke();
            }
            return isComplete();
        }

        /** Reads works up to the first error, and answers whether they are complete. */
        boolean readWorks() {
            begin();
            readPart();
            for (int n = 1; n < MOST_CODES && skip(';'); n++) {
                readPart();
            }
            return isComplete();
        }

        private void begin() {
            place = 0;
            isBroken = false;
            strokes = 0;
            parts = 0;
        }

        private boolean isComplete() {
            return !isBroken && place == length;
        }

        private void readStroke() {
            boolean isNegative = skip('-');
            int slant = readNumber(isNegative ? 1 : 0, 45);
            need(':');
            int height = readNumber(1, 60);
            boolean hasLoop = skip('o');
            need('p');
            int pressure = readNumber(1, 9);
            int tremor = skip('~') ? readNumber(1, 9) : 0;
            int start = strokes * STROKE_NUMBERS;
            numbers.put(start + SLANT, isNegative ? -slant : slant);
            numbers.put(start + HEIGHT, height);
            numbers.put(start + LOOP, hasLoop ? 1 : 0);
            numbers.put(start + PRESSURE, pressure);
            numbers.put(start + TREMOR, tremor);
            strokes++;
        }

        private void readPart() {
            int kind = codeHere();
            int first = 0;
            int second = 0;
            if (skip('l') || skip('u')) {
                first = readNumber(0, MOST_SHEETS - 1);
                need('/');
                second = readNumber(0, MOST_SHEETS - 1);
            } else if (skip('y')) {
                first = readNumber(1, MOST_YEARS);
            } else {
                need('d');
                first = readNumber(0, MOST_SHEETS - 1);
            }
            kinds.put(parts, kind);
            firsts.put(parts, first);
            seconds.put(parts, second);
            parts++;
        }

        /** Nothing is there behind an error, so that the place stays where the error was. */
        private int codeHere() {
            return isBroken || place >= length ? NONE : codes.at(place);
        }

        private int digitHere() {
            int code = codeHere();
            return code >= '0' && code <= '9' ? code - '0' : NONE;
        }

        private boolean skip(int code) {
            if (codeHere() != code) {
                return false;
            }
            place++;
            return true;
        }

        private void need(int code) {
            if (!skip(code)) {
                isBroken = true;
            }
        }

        /** Reads a number of one or two digits; no number of the texts has more. */
        private int readNumber(int least, int most) {
            int value = digitHere();
            if (value < least || value > most) {
                isBroken = true;
                return 0;
            }
            place++;
            int second = digitHere();
            if (value == 0 || second == NONE || value * 10 + second > most) {
                return value;
            }
            place++;
            return value * 10 + second;
        }
    }

    /** A sheet's strokes and marks, which stay as they are: tables share it, and keep its age. */
    private static final class Sheet {
        private final int strokes;
        private final Row numbers;
        private final Row marks = new Row(MARKS);

        Sheet(int strokes, Row read) {
            this.strokes = strokes < 0 || strokes > MOST_STROKES ? 0 : strokes;
            numbers = new Row(MOST_STROKES * STROKE_NUMBERS);
            numbers.copyFrom(read);
        }

        void reckonMarks() {
            int loops = total(LOOP);
            int pressures = total(PRESSURE);
            marks.put(0, mean(total(SLANT), strokes));
            marks.put(1, slantRange());
            marks.put(2, mean(mean(loopHeights(), loops) * 10, mean(total(HEIGHT), strokes)));
            marks.put(3, mean(loops * 100, strokes));
            marks.put(4, mean(pressures * 10, strokes));
            marks.put(5, mean(pressureSteps() * 10, strokes - 1));
        }

        int total(int what) {
            int sum = 0;
            for (int i = 0; i < strokes; i++) {
                sum += numberOf(i, what);
            }
            return sum;
        }

        int toldNumber(int stroke, int what) {
            if (stroke >= strokes) {
                return NONE;
            }
            return numberOf(stroke, what) + (what == SLANT ? 100 : 0);
        }

        int toldMark(int mark) {
            return marks.at(mark) + 1000;
        }

        long mixInto(long before) {
            long hash = before;
            for (int i = 0; i < strokes; i++) {
                for (int what = 0; what < STROKE_NUMBERS; what++) {
                    hash = mix(hash, toldNumber(i, what));
                }
            }
            for (int mark = 0; mark < MARKS; mark++) {
                hash = mix(hash, toldMark(mark));
            }
            return hash;
        }

        private int numberOf(int stroke, int what) {
            return numbers.at(stroke * STROKE_NUMBERS + what);
        }

        private int slantRange() {
            int least = numberOf(0, SLANT);
            int greatest = least;
            for (int i = 1; i < strokes; i++) {
                least = Math.min(least, numberOf(i, SLANT));
                greatest = Math.max(greatest, numberOf(i, SLANT));
            }
            return greatest - least;
        }

        private int loopHeights() {
            int sum = 0;
            for (int i = 0; i < strokes; i++) {
                sum += numberOf(i, LOOP) == 1 ? numberOf(i, HEIGHT) : 0;
            }
            return sum;
        }

        private int pressureSteps() {
            int sum = 0;
            for (int i = 1; i < strokes; i++) {
                sum += Math.abs(numberOf(i, PRESSURE) - numberOf(i - 1, PRESSURE));
            }
            return sum;
        }

        /** Rounded down; 0 of nothing, which is what the marks without a loop or a neighbour are. */
        private static int mean(int sum, int parts) {
            return parts <= 0 ? 0 : Math.floorDiv(sum, parts);
        }
    }

    /** The oaths, the oldest one first, and the hands that they join. */
    private static final class Oaths {
        private int size;
        private int sworn;
        private final Row firsts = new Row(MOST_OATHS);
        private final Row seconds = new Row(MOST_OATHS);
        private final Row likes = new Row(MOST_OATHS);
        private final Row hands = new Row(MOST_SHEETS);

        void takeOver(Oaths from) {
            if (from == null) {
                return;
            }
            size = from.size;
            sworn = from.sworn;
            firsts.copyFrom(from.firsts);
            seconds.copyFrom(from.seconds);
            likes.copyFrom(from.likes);
            hands.copyFrom(from.hands);
        }

        void add(int sheet, int other, boolean isLike) {
            if (size >= MOST_OATHS) {
                return;
            }
            firsts.put(size, sheet);
            seconds.put(size, other);
            likes.put(size, isLike ? 1 : 0);
            size++;
            sworn++;
            joinHands();
        }

        void removeAt(int place) {
            takeOut(place);
            joinHands();
        }

        /** Takes out the oaths of a sheet that goes, and gives the sheets behind it their new numbers. */
        int forgetSheet(int sheet) {
            int before = size;
            for (int k = before - 1; k >= 0; k--) {
                if (isOf(k, sheet)) {
                    takeOut(k);
                }
            }
            for (int k = 0; k < size; k++) {
                firsts.put(k, numberWithout(sheet, firsts.at(k)));
                seconds.put(k, numberWithout(sheet, seconds.at(k)));
            }
            joinHands();
            return before - size;
        }

        int placeOf(int sheet, int other) {
            for (int k = 0; k < size; k++) {
                if (sheet != other && isOf(k, sheet) && isOf(k, other)) {
                    return k;
                }
            }
            return NONE;
        }

        int kindOf(int sheet, int other) {
            int place = placeOf(sheet, other);
            return place == NONE ? NONE : likes.at(place);
        }

        int numberOf(int place, int what) {
            switch (what) {
                case 0:
                    return firsts.at(place);
                case 1:
                    return seconds.at(place);
                case 2:
                    return likes.at(place);
                default:
                    return holdsTogether(place) ? 1 : 0;
            }
        }

        int ofSheet(int sheet) {
            int found = 0;
            for (int k = 0; k < size; k++) {
                found += isOf(k, sheet) ? 1 : 0;
            }
            return found;
        }

        int ofOneHand() {
            int found = 0;
            for (int k = 0; k < size; k++) {
                found += likes.at(k);
            }
            return found;
        }

        int handOf(int sheet) {
            return hands.at(sheet);
        }

        /** Whether the hands of two sheets, put together, would hold an oath of two hands. */
        boolean forbidJoining(int sheet, int other) {
            for (int k = 0; k < size; k++) {
                if (likes.at(k) == 0 && isInHands(firsts.at(k), sheet, other)
                        && isInHands(seconds.at(k), sheet, other)) {
                    return true;
                }
            }
            return false;
        }

        /** Goes from sheet to sheet along the oaths of one hand, but not along the one left out. */
        boolean leads(int from, int to, int leftOut) {
            int seen = 1 << from;
            for (int round = 0; round < MOST_SHEETS; round++) {
                int before = seen;
                for (int k = 0; k < size; k++) {
                    int ends = (1 << firsts.at(k)) | (1 << seconds.at(k));
                    if (k != leftOut && likes.at(k) == 1 && (seen & ends) != 0) {
                        seen |= ends;
                    }
                }
                if (seen == before) {
                    break;
                }
            }
            return (seen & (1 << to)) != 0;
        }

        private boolean holdsTogether(int place) {
            return likes.at(place) == 1 && !leads(firsts.at(place), seconds.at(place), place);
        }

        private boolean isOf(int place, int sheet) {
            return firsts.at(place) == sheet || seconds.at(place) == sheet;
        }

        private boolean isInHands(int sheet, int one, int two) {
            int hand = hands.at(sheet);
            return hand == hands.at(one) || hand == hands.at(two);
        }

        private void takeOut(int place) {
            if (place < 0 || place >= size) {
                return;
            }
            firsts.closeUp(place);
            seconds.closeUp(place);
            likes.closeUp(place);
            size--;
        }

        /** The number of a hand is its lowest sheet, so the lower of two numbers stays. */
        private void joinHands() {
            for (int i = 0; i < MOST_SHEETS; i++) {
                hands.put(i, i);
            }
            for (int k = 0; k < size; k++) {
                if (likes.at(k) == 1) {
                    joinTwo(hands.at(firsts.at(k)), hands.at(seconds.at(k)));
                }
            }
        }

        private void joinTwo(int hand, int other) {
            int lower = Math.min(hand, other);
            for (int i = 0; i < MOST_SHEETS; i++) {
                if (hands.at(i) == hand || hands.at(i) == other) {
                    hands.put(i, lower);
                }
            }
        }

        private static int numberWithout(int gone, int sheet) {
            return sheet > gone ? sheet - 1 : sheet;
        }
    }

    /** The state that undo and the snapshot bring back: all but the buffer and the saved states. */
    private static final class Table {
        private final Sheet blank = new Sheet(0, null);
        private final Sheet[] sheets = new Sheet[MOST_SHEETS];
        private final Row ages = new Row(MOST_SHEETS);
        private int size;
        private final Oaths oaths = new Oaths();
        private final Row settings = new Row(SETTINGS);
        private int stopPart = NONE;
        private int stopReason = NONE;

        Table() {
            for (int i = 0; i < SETTINGS && i < FIRST_SETTINGS.length; i++) {
                settings.put(i, FIRST_SETTINGS[i]);
            }
            oaths.joinHands();
        }

        void takeOver(Table from) {
            if (from == null) {
                return;
            }
            for (int i = 0; i < sheets.length && i < from.sheets.length; i++) {
                sheets[i] = from.sheets[i];
            }
            ages.copyFrom(from.ages);
            size = from.size;
            oaths.takeOver(from.oaths);
            settings.copyFrom(from.settings);
            stopPart = from.stopPart;
            stopReason = from.stopReason;
        }

        void forgetStop() {
            stopPart = NONE;
            stopReason = NONE;
        }

        Sheet sheetAt(int place) {
            Sheet found = place >= 0 && place < sheets.length ? sheets[place] : blank;
            return found == null ? blank : found;
        }

        int putDown(Sheet laid, int age) {
            if (size < 0 || size >= sheets.length) {
                return NONE;
            }
            sheets[size] = laid;
            ages.put(size, age);
            size++;
            return size - 1;
        }

        int takeAway(int sheet) {
            if (sheet < 0 || sheet >= size) {
                return 0;
            }
            for (int i = sheet; i < sheets.length - 1; i++) {
                sheets[i] = sheets[i + 1];
            }
            ages.closeUp(sheet);
            size--;
            return oaths.forgetSheet(sheet);
        }

        int growOlder(int years) {
            int oldest = NONE;
            for (int i = 0; i < size; i++) {
                ages.put(i, Math.min(MOST_YEARS, ages.at(i) + years));
                oldest = Math.max(oldest, ages.at(i));
            }
            return oldest;
        }

        int numberOfSheet(int sheet, int what) {
            switch (what) {
                case 0:
                    return sheetAt(sheet).strokes;
                case 1:
                    return ages.at(sheet);
                case 2:
                    return sheetAt(sheet).total(LOOP);
                case 3:
                    return trembles(sheet) ? 1 : 0;
                case 4:
                    return oaths.handOf(sheet);
                case 5:
                    return oaths.ofSheet(sheet);
                default:
                    return fadedMarks(ages.at(sheet)) != 0 ? 1 : 0;
            }
        }

        int numberOfAll(int what) {
            switch (what) {
                case 0:
                    return size;
                case 1:
                    return oaths.size;
                case 2:
                    return oaths.ofOneHand();
                case 3:
                    return hands();
                case 4:
                    return mostOfAHand();
                case 5:
                    return tremblingSheets();
                case 6:
                    return oaths.sworn;
                default:
                    return likePairs();
            }
        }

        int comparison(int sheet, int other, int what) {
            switch (what) {
                case 0:
                    return likeness(sheet, other, 0);
                case 1:
                    return agreeing(sheet, other, 0);
                case 2:
                    return oaths.leads(sheet, other, NONE) ? 1 : 0;
                case 3:
                    return areOfOneHand(sheet, other) ? 1 : 0;
                default:
                    return oaths.kindOf(sheet, other);
            }
        }

        int reasonAgainst(int sheet, int other, boolean isLike) {
            if (sheet == other) {
                return SAME_SHEET;
            }
            if (oaths.placeOf(sheet, other) != NONE) {
                return ALREADY_SWORN;
            }
            if (!isLike) {
                return areOfOneHand(sheet, other) ? OF_ONE_HAND : 0;
            }
            if (trembles(sheet) || trembles(other)) {
                return TREMBLES;
            }
            if (likeness(sheet, other, 0) < settings.at(LEAST_LIKENESS)) {
                return TOO_UNLIKE;
            }
            return oaths.forbidJoining(sheet, other) ? AGAINST_AN_OATH : 0;
        }

        int likeness(int sheet, int other, int years) {
            return Integer.bitCount(agreeing(sheet, other, years));
        }

        /** The least tolerance by which two sheets agree in a mark; NONE if it has faded in one. */
        int neededTolerance(int sheet, int other, int mark) {
            int age = ages.at(sheet);
            int otherAge = ages.at(other);
            if ((fadedMarks(Math.max(age, otherAge)) & (1 << mark)) != 0) {
                return NONE;
            }
            int difference = Math.abs(sheetAt(sheet).marks.at(mark) - sheetAt(other).marks.at(mark));
            return Math.max(0, difference - allowance(age, otherAge));
        }

        int mostAlike(int sheet) {
            int best = NONE;
            int most = NONE;
            for (int i = 0; i < size; i++) {
                int alike = i == sheet ? NONE : likeness(sheet, i, 0);
                if (alike > most) {
                    most = alike;
                    best = i;
                }
            }
            return best;
        }

        int hands() {
            int found = 0;
            for (int i = 0; i < size; i++) {
                found += oaths.handOf(i) == i ? 1 : 0;
            }
            return found;
        }

        double shareOfHands() {
            int pairs = 0;
            int alike = 0;
            for (int i = 0; i < size; i++) {
                for (int j = i + 1; j < size; j++) {
                    if (areOfOneHand(i, j)) {
                        pairs++;
                        alike += likeness(i, j, 0);
                    }
                }
            }
            return pairs <= 0 ? 1.0 : (double) alike / (double) (MARKS * pairs);
        }

        /** The marks in which two sheets agree behind some years, as a mask. */
        private int agreeing(int sheet, int other, int years) {
            int age = Math.min(MOST_YEARS, ages.at(sheet) + years);
            int otherAge = Math.min(MOST_YEARS, ages.at(other) + years);
            int allowed = allowance(age, otherAge);
            Row marks = sheetAt(sheet).marks;
            Row otherMarks = sheetAt(other).marks;
            int mask = 0;
            for (int mark = 0; mark < MARKS; mark++) {
                if (Math.abs(marks.at(mark) - otherMarks.at(mark)) <= settings.at(mark) + allowed) {
                    mask |= 1 << mark;
                }
            }
            return mask & ~fadedMarks(Math.max(age, otherAge));
        }

        private int fadedMarks(int age) {
            return age >= settings.at(FADING_AGE) ? FADING_MARKS : 0;
        }

        private static int allowance(int age, int otherAge) {
            return Math.abs(age - otherAge) / 10;
        }

        private boolean trembles(int sheet) {
            Sheet looked = sheetAt(sheet);
            return looked.total(TREMOR) > looked.strokes * settings.at(TREMOR_LIMIT);
        }

        private boolean areOfOneHand(int sheet, int other) {
            return oaths.handOf(sheet) == oaths.handOf(other);
        }

        private int mostOfAHand() {
            int most = 0;
            for (int i = 0; i < size; i++) {
                int members = 0;
                for (int j = 0; j < size; j++) {
                    members += areOfOneHand(i, j) ? 1 : 0;
                }
                most = Math.max(most, members);
            }
            return most;
        }

        private int tremblingSheets() {
            int found = 0;
            for (int i = 0; i < size; i++) {
                found += trembles(i) ? 1 : 0;
            }
            return found;
        }

        private int likePairs() {
            int found = 0;
            for (int i = 0; i < size; i++) {
                for (int j = i + 1; j < size; j++) {
                    found += likeness(i, j, 0) >= settings.at(LEAST_LIKENESS) ? 1 : 0;
                }
            }
            return found;
        }
    }

    /** The saved states, in tables that are used in turn, so that the oldest one is written over. */
    private static final class History {
        private final Table[] slots = new Table[MOST_SAVED];
        private int newest;
        private int size;

        History() {
            for (int i = 0; i < slots.length; i++) {
                slots[i] = new Table();
            }
        }

        void save(Table table) {
            newest = newest + 1 < MOST_SAVED ? newest + 1 : 0;
            Table slot = newestSlot();
            if (slot != null) {
                slot.takeOver(table);
            }
            if (size < MOST_SAVED) {
                size++;
            }
        }

        void bringBack(Table table) {
            Table slot = newestSlot();
            if (slot == null || table == null || size <= 0) {
                return;
            }
            table.takeOver(slot);
            newest = newest > 0 ? newest - 1 : MOST_SAVED - 1;
            size--;
        }

        private Table newestSlot() {
            return newest >= 0 && newest < slots.length ? slots[newest] : null;
        }
    }
}
