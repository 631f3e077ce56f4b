import java.util.ArrayList;
import java.util.List;

/** Each sentence of "Input texts", and of promises 8 to 12, that names a boundary case. */
public final class TextBoundsTest {
    private static final String STROKES = "0:1p1,0:1p1,0:1p1,0:1p1,0:1p1,0:1p1,0:1p1,";
    private static final String DIGITS = "0123456789";
    private static final String FROM_ONE = "123456789";
    private static final String TO_SEVEN = "01234567";

    public static void main(String[] args) {
        mostCharacters();
        appendToAFullBuffer();
        appendCodes();
        appendReturnsTheLength();
        clearBuffer();
        slants();
        heights();
        loops();
        pressures();
        tremors();
        ninthStroke();
        sheetsOfWorks();
        dropsOfWorks();
        yearsOfWorks();
        leadingZeros();
        everyCharacterOfASheet();
        everyCharacterOfWorks();
        ofAnyLength();
        leftToRight();
        indexOfTheFirst();
        noError();
        oneOrMoreParts();
        workOfNoWorks();
        upToTheFirst();
        workOnAnEmptyTable();
        workAtMost99();
        mostParts();
        undoneAsOneCall();
        latestStop();
        reasons();
        noStop();
        stoppedWhat();
        Checks.end("TextBoundsTest");
    }

    private static void error(String text, boolean areWorks, int want) {
        SlantOaths x = new SlantOaths();
        Checks.write(x, text);
        Checks.due(text + (areWorks ? " as works" : " as a sheet"), want, () -> x.firstError(areWorks));
    }

    private static void mostCharacters() {
        Checks.of("The buffer has at most 60 characters.");
        SlantOaths x = new SlantOaths();
        for (int i = 1; i <= 60; i++) {
            Checks.due("character " + i, i, () -> x.append('y'));
        }
        Checks.refuses("one more", x, Checks.STATE, () -> x.append('y'));
        Checks.due("60 are there", 60, x::clearBuffer);
    }

    private static void appendToAFullBuffer() {
        Checks.of("8: Throws `IllegalStateException` if the buffer has 60 characters");
        SlantOaths x = new SlantOaths();
        Checks.write(x, "a".repeat(59));
        Checks.due("the last one", 60, () -> x.append(126));
        Checks.refuses("the least code", x, Checks.STATE, () -> x.append(33));
        Checks.refuses("the greatest code", x, Checks.STATE, () -> x.append(126));
        Checks.due("60 were there", 60, x::clearBuffer);
        Checks.due("room again", 1, () -> x.append('y'));
    }

    private static void appendCodes() {
        Checks.of("8: Throws `IllegalArgumentException` if code is not 33 to 126");
        SlantOaths x = new SlantOaths();
        for (int code : new int[] {32, 127, 31, 128, 10, 0, -1, -33, 255, 256 + 65, 65536 + 65, Integer.MIN_VALUE,
            Integer.MAX_VALUE}) {
            Checks.refuses("code " + code, x, Checks.ARGUMENT, () -> x.append(code));
        }
        for (int code = 33; code <= 126; code++) {
            int c = code;
            Checks.due("code " + code, 1, () -> x.append(c));
            x.clearBuffer();
        }
        long empty = x.digest();
        for (int code : new int[] {33, 126}) {
            x.append(code);
            Checks.due("it is kept, " + code, (long) code, () -> x.digest() - 31 * (empty + 1));
            x.clearBuffer();
        }
    }

    private static void appendReturnsTheLength() {
        Checks.of("Returns the new length of the buffer.");
        SlantOaths x = new SlantOaths();
        for (int length = 1; length <= 60; length++) {
            int now = length;
            Checks.due("of " + length, now, () -> x.append('0' + now % 10));
        }
        x.clearBuffer();
        Checks.due("the first one again", 1, () -> x.append('0'));
    }

    private static void clearBuffer() {
        Checks.of("9: Clears the buffer. Returns the length that it had.");
        SlantOaths x = new SlantOaths();
        Checks.due("empty", 0, x::clearBuffer);
        for (int length : new int[] {1, 59, 60}) {
            for (int i = 0; i < length; i++) {
                x.append('a' + i % 20);
            }
            Checks.due("of " + length, length, x::clearBuffer);
            Checks.due("empty then", 0, x::clearBuffer);
            Checks.due("as an empty one", new SlantOaths().digest(), x::digest);
        }
    }

    /** Every text of one to three digits, where a number from the least to the most is due. */
    private static void numbers(String before, int least, int most, String after, boolean areWorks) {
        List<String> valid = new ArrayList<>();
        for (int i = least; i <= most; i++) {
            valid.add(String.valueOf(i));
        }
        for (int length = 1, end = 10; length <= 3; length++, end *= 10) {
            for (int i = 0; i < end; i++) {
                String digits = String.format("%0" + length + "d", i);
                error(before + digits + after, areWorks, before.length() + firstOf(digits, valid, after.length()));
            }
        }
    }

    private static int firstOf(String digits, List<String> valid, int behind) {
        for (int end = 1; end <= digits.length(); end++) {
            String start = digits.substring(0, end);
            if (valid.stream().noneMatch(number -> number.startsWith(start))) {
                return end - 1;
            }
        }
        return digits.length() + behind;
    }

    private static void slants() {
        Checks.of("perhaps \"-\", and a slant, 0 to 45 (behind \"-\" 1 to 45)");
        numbers("", 0, 45, ":1p1", false);
        numbers("-", 1, 45, ":1p1", false);
        numbers("0:1p1,", 0, 45, ":", false);
        numbers("0:1p1~1,-", 1, 45, "", false);
        error("--1", false, 1);
        error("+1", false, 0);
        error("-:", false, 1);
        error(":", false, 0);
        error("1-", false, 1);
    }

    private static void heights() {
        Checks.of("\":\", a height, 1 to 60");
        numbers("0:", 1, 60, "p1", false);
        numbers("-45:", 1, 60, "op9~9", false);
        numbers(STROKES + "45:", 1, 60, "p", false);
        error("0:-1", false, 2);
        error("0:p1", false, 2);
        error("0::", false, 2);
    }

    private static void loops() {
        Checks.of("perhaps \"o\" (a loop)");
        error("0:1op1", false, 6);
        error("0:1p1", false, 5);
        error("0:1oop1", false, 4);
        error("0:1Op1", false, 3);
        error("0:10p1", false, 6);
        error("0:1po1", false, 4);
        error("0:1p1o", false, 5);
        error("0:o", false, 2);
        SlantOaths x = new SlantOaths();
        Checks.lay(x, "0:1op1,0:1p1", 0);
        Checks.due("with it", 1, () -> x.stroke(0, 0, 2));
        Checks.due("without it", 0, () -> x.stroke(0, 1, 2));
    }

    private static void pressures() {
        Checks.of("\"p\" and a pressure, 1 to 9");
        numbers("0:1p", 1, 9, "", false);
        numbers("0:1op", 1, 9, "~1", false);
        numbers("0:1op", 1, 9, ",0", false);
        error("0:1", false, 3);
        error("0:1~", false, 3);
        error("0:1,", false, 3);
        error("0:1p~", false, 4);
    }

    private static void tremors() {
        Checks.of("perhaps \"~\" and a tremor, 1 to 9 (0 without it)");
        numbers("0:1p1~", 1, 9, "", false);
        numbers("0:1op1~", 1, 9, ",", false);
        error("0:1p1~~", false, 6);
        error("0:1p1~,", false, 6);
        error("0:1p1~1~", false, 7);
        SlantOaths x = new SlantOaths();
        Checks.lay(x, "0:1p1~9,0:1p1,0:1p1~1", 0);
        Checks.due("with it", 9, () -> x.stroke(0, 0, 4));
        Checks.due("without it", 0, () -> x.stroke(0, 1, 4));
        Checks.due("the least", 1, () -> x.stroke(0, 2, 4));
    }

    private static void ninthStroke() {
        Checks.of("a ninth stroke is a syntax error at its \",\".");
        error(STROKES + "0:1p1", false, 47);
        error(STROKES + "0:1p1,", false, 47);
        error(STROKES + "0:1p1,0:1p1", false, 47);
        error(STROKES + "0:1p1~9", false, 49);
        error(STROKES + "0:1p1~9,", false, 49);
        error(STROKES + "-45:60op9~9", false, 53);
        error(STROKES + "-45:60op9~9,", false, 53);
        error(STROKES, false, 42);
        error(STROKES + ",", false, 42);
        SlantOaths x = new SlantOaths();
        Checks.write(x, STROKES + "0:1p1,");
        Checks.refuses("it can't be laid", x, Checks.ARGUMENT, () -> x.lay(0));
    }

    private static void sheetsOfWorks() {
        Checks.of("\"l\" or \"u\", a sheet, 0 to 7, \"/\", and a sheet");
        numbers("l", 0, 7, "/0", true);
        numbers("u", 0, 7, "/7;", true);
        numbers("l0/", 0, 7, "", true);
        numbers("u7/", 0, 7, ";l", true);
        error("l/", true, 1);
        error("l0//", true, 3);
        error("l0;", true, 2);
    }

    private static void dropsOfWorks() {
        Checks.of("or \"d\" and a sheet (it goes).");
        SlantOaths x = Checks.table(2);
        Checks.due("the last one and the first", 2, () -> Checks.work(x, "d1;d0"));
        Checks.due("none is left", 0, () -> x.count(0));
        numbers("d", 0, 7, "", true);
        numbers("y9;d", 0, 7, ";d", true);
        error("d0/", true, 2);
        error("d;", true, 1);
        error("d-", true, 1);
    }

    private static void yearsOfWorks() {
        Checks.of("\"y\" and years, 1 to 99");
        numbers("y", 1, 99, "", true);
        numbers("y", 1, 99, ";y", true);
        numbers("d7;y", 1, 99, ";", true);
        error("y;", true, 1);
        error("y-", true, 1);
        error("y/", true, 1);
    }

    private static void leadingZeros() {
        Checks.of("Numbers are without a leading zero.");
        for (String text : new String[] {"00:1p1", "01:1p1", "045:1p1"}) {
            error(text, false, 1);
        }
        error("-01:1p1", false, 1);
        error("-00:1p1", false, 1);
        error("0:01p1", false, 2);
        error("0:1p01", false, 4);
        error("0:1p1~01", false, 6);
        error("l00/1", true, 2);
        error("l0/01", true, 4);
        error("u07/1", true, 2);
        error("y01", true, 1);
        error("d00", true, 2);
    }

    /** Of all characters just those that may be next are no syntax error behind a beginning. */
    private static void next(String start, String goOn, boolean areWorks) {
        SlantOaths x = new SlantOaths();
        Checks.write(x, start);
        Checks.due("no error in " + start, start.length(), () -> x.firstError(areWorks));
        for (int code = 33; code <= 126; code++) {
            boolean isNext = goOn.indexOf(code) >= 0;
            error(start + (char) code, areWorks, start.length() + (isNext ? 1 : 0));
        }
    }

    private static void everyCharacterOfASheet() {
        Checks.of("a character is a syntax error if no sheet");
        for (String before : new String[] {"", "-1:60op9~9,", STROKES}) {
            String behind = before.equals(STROKES) ? "" : ",";
            next(before, "-" + DIGITS, false);
            next(before + "-", FROM_ONE, false);
            next(before + "0", ":", false);
            next(before + "3", DIGITS + ":", false);
            next(before + "-3", DIGITS + ":", false);
            next(before + "4", "012345:", false);
            next(before + "-4", "012345:", false);
            next(before + "5", ":", false);
            next(before + "-9", ":", false);
            next(before + "45", ":", false);
            next(before + "45:", FROM_ONE, false);
            next(before + "45:1", DIGITS + "op", false);
            next(before + "45:5", DIGITS + "op", false);
            next(before + "45:6", "0op", false);
            next(before + "45:7", "op", false);
            next(before + "45:60", "op", false);
            next(before + "45:60o", "p", false);
            next(before + "45:60p", FROM_ONE, false);
            next(before + "45:60op", FROM_ONE, false);
            next(before + "45:60op9", "~" + behind, false);
            next(before + "45:60p1~", FROM_ONE, false);
            next(before + "45:60p1~9", behind, false);
        }
    }

    private static void everyCharacterOfWorks() {
        Checks.of("(or no works) as a text, of any length, begins with the characters before it and this character.");
        for (String before : new String[] {"", "d0;", "l0/1;u7/7;y10;"}) {
            next(before, "luyd", true);
            for (String sign : new String[] {"l", "u"}) {
                next(before + sign, TO_SEVEN, true);
                next(before + sign + "0", "/", true);
                next(before + sign + "7", "/", true);
                next(before + sign + "7/", TO_SEVEN, true);
                next(before + sign + "7/0", ";", true);
            }
            next(before + "d", TO_SEVEN, true);
            next(before + "d0", ";", true);
            next(before + "y", FROM_ONE, true);
            next(before + "y1", DIGITS + ";", true);
            next(before + "y9", DIGITS + ";", true);
            next(before + "y10", ";", true);
            next(before + "y99", ";", true);
        }
    }

    private static void ofAnyLength() {
        Checks.of("as a text, of any length");
        String four = "-45:60op9~9,-45:60op9~9,-45:60op9~9,-45:60op9~9,";
        for (String end : new String[] {"-45:60op9~9,", "45:60op9,0:1", "45:60p9,-45:", "0:1op1~9,-45"}) {
            error(four + end, false, 60);
        }
        error(four + "0:1op1~9,0:0", false, 59);
        error(four + "-45:60op9~9;", false, 59);
        error(STROKES + "-45:60op9~9,0:1p1,", false, 53);
        for (String end : new String[] {"d0;", "y10", "y99"}) {
            error("d0;".repeat(19) + end, true, 60);
        }
        error("l0/1;".repeat(12), true, 60);
        error("l0/1;".repeat(11) + "u7/", true, 58);
        error("l0/1;".repeat(11) + "u7/7u", true, 59);
        error("d0;".repeat(19) + "d00", true, 59);
        error("d0;".repeat(19) + "y0;", true, 58);
        error("d0;".repeat(19) + "d0/", true, 59);
    }

    private static void leftToRight() {
        Checks.of("The buffer is read from left to right");
        error("x0:1p1x", false, 0);
        error("0:1p1x,,,", false, 5);
        error("00:00p00", false, 1);
        error("d8;d9;x", true, 1);
        error("d0;x;y;z", true, 3);
        error("y100;d8", true, 3);
        error("~".repeat(60), false, 0);
        error("~".repeat(60), true, 0);
        error("0:1p1", true, 0);
        error("d0", false, 0);
    }

    private static void indexOfTheFirst() {
        Checks.of("Returns the index of the first character that is a syntax error");
        for (int length = 1; length <= 60; length++) {
            error("!".repeat(length), false, 0);
            error("!".repeat(length), true, 0);
            String works = "d0;".repeat(20).substring(0, length - 1);
            error(works + "!", true, length - 1);
            String sheet = "-45:60op9~9,".repeat(5).substring(0, length - 1);
            error(sheet + "!", false, length - 1);
        }
    }

    private static void noError() {
        Checks.of("10: the length of the buffer if there is none.");
        String sheet = "-45:60op9~9,1:1p1";
        String works = "l0/7;u7/0;y99;y1;d0";
        for (int end = 0; end <= sheet.length(); end++) {
            error(sheet.substring(0, end), false, end);
        }
        for (int end = 0; end <= works.length(); end++) {
            error(works.substring(0, end), true, end);
        }
        SlantOaths x = new SlantOaths();
        Checks.due("of an empty buffer as a sheet", 0, () -> x.firstError(false));
        Checks.due("of an empty buffer as works", 0, () -> x.firstError(true));
        Checks.write(x, sheet);
        Checks.due("it stays, as a sheet", 17, () -> x.firstError(true) + x.firstError(false));
        Checks.due("it is laid all the same", 0, () -> x.lay(0));
        Checks.write(x, works);
        Checks.due("it stays, as works", 19, () -> x.firstError(false) + x.firstError(true));
        Checks.due("they are done all the same", 0, x::work);
    }

    private static void oneOrMoreParts() {
        Checks.of("Works as a text are one or more parts with \";\" between them");
        SlantOaths x = Checks.table(2);
        Checks.due("one part", 1, () -> Checks.work(x, "l0/1"));
        Checks.due("two parts", 2, () -> Checks.work(x, "y1;d0"));
        for (String text : new String[] {"", ";", "y1;", ";y1", "y1;;y1", "y1,y1", "y1y1"}) {
            Checks.write(x, text);
            Checks.refuses("work of " + text, x, Checks.ARGUMENT, x::work);
        }
    }

    private static void workOfNoWorks() {
        Checks.of("11: Throws `IllegalArgumentException` if the buffer is not complete works as a text (the buffer"
                + " stays)");
        String works = "y10;l0/1;u1/0;d0";
        for (int end = 0; end < works.length(); end++) {
            String start = works.substring(0, end);
            boolean isWhole = end == 2 || end == 3 || end == 8 || end == 13;
            SlantOaths x = Checks.table(2);
            Checks.write(x, start);
            if (!isWhole) {
                Checks.refuses("work of " + start, x, Checks.ARGUMENT, x::work);
                Checks.refuses("work again of " + start, x, Checks.ARGUMENT, x::work);
            }
            for (char c : works.substring(end).toCharArray()) {
                x.append(c);
            }
            Checks.due("the buffer stayed, so the rest makes it whole: " + start, 2, x::work);
            Checks.due("it got older once: " + start, 10, () -> x.sheet(0, 1));
            Checks.due("only that call saved a state: " + start, 3, () -> x.count(17));
        }
        SlantOaths y = Checks.table(1);
        Checks.write(y, "0:1p1");
        Checks.refuses("a sheet is no works", y, Checks.ARGUMENT, y::work);
        Checks.due("the buffer stays", 1, () -> y.lay(0));
    }

    private static void upToTheFirst() {
        Checks.of("11: Does the works that the buffer is as a text, part by part, up to the first part for which"
                + " the method would throw an exception, and clears the buffer.");
        SlantOaths x = Checks.table(4);
        Checks.due("the first part stops", 0, () -> Checks.work(x, "d4;y9"));
        Checks.due("nothing is done", 0, () -> x.sheet(0, 1));
        Checks.due("the buffer is empty", 0, x::clearBuffer);
        Checks.due("a middle one", 1, () -> Checks.work(x, "l0/1;l1/0;y9"));
        Checks.due("what is before it is done", 1, () -> x.compare(0, 1, 4));
        Checks.due("what is behind it is not", 0, () -> x.sheet(0, 1));
        Checks.due("the buffer is empty then", 0, x::clearBuffer);
        Checks.due("the last one", 2, () -> Checks.work(x, "y1;u0/2;u2/0"));
        Checks.due("none", 3, () -> Checks.work(x, "y1;u3/0;u3/1"));
        Checks.due("the buffer is empty at the end", 0, x::clearBuffer);
        SlantOaths y = Checks.table(3);
        Checks.due("each part finds what the one before left", 3, () -> Checks.work(y, "d0;d0;d0;d0"));
        SlantOaths z = Checks.table(3);
        Checks.due("sheets have new numbers", 2, () -> Checks.work(z, "d0;l0/1;l1/2"));
        Checks.due("no sheet 2 was left", 7, () -> z.stopped(1));
    }

    private static void workOnAnEmptyTable() {
        Checks.of("11: for which the method would throw an exception");
        SlantOaths x = new SlantOaths();
        Checks.due("years pass without sheets", 2, () -> Checks.work(x, "y1;y99"));
        for (String part : new String[] {"d0", "d7", "l0/0", "u0/0", "l0/1", "u7/7"}) {
            Checks.due(part, 0, () -> Checks.work(x, part));
            Checks.due("why " + part, 7, () -> x.stopped(1));
        }
    }

    private static void workAtMost99() {
        Checks.of("\"y\" and years, 1 to 99 (all sheets get older by them, at most 99)");
        SlantOaths x = new SlantOaths();
        Checks.lay(x, "0:9op5", 0);
        Checks.lay(x, "0:9op5", 98);
        Checks.work(x, "y1");
        Checks.due("a year", 1, () -> x.sheet(0, 1));
        Checks.due("99", 99, () -> x.sheet(1, 1));
        Checks.work(x, "y1");
        Checks.due("no more", 99, () -> x.sheet(1, 1));
        Checks.due("two years", 2, () -> x.sheet(0, 1));
        Checks.work(x, "y99;y99");
        Checks.due("both are 99", 198, () -> x.sheet(0, 1) + x.sheet(1, 1));
    }

    private static void mostParts() {
        Checks.of("11: Returns how many parts are done.");
        SlantOaths x = Checks.table(8);
        Checks.due("twenty", 20, () -> Checks.work(x, "y1;".repeat(19) + "y10"));
        Checks.due("all are done", 29, () -> x.sheet(7, 1));
        Checks.due("eight sheets go", 8, () -> Checks.work(x, "d0;".repeat(19) + "d0"));
        Checks.due("the ninth is not there", 8, () -> x.stopped(0));
        Checks.due("the last of twenty stops", 19, () -> Checks.work(x, "y1;".repeat(19) + "d7"));
        Checks.due("its number", 19, () -> x.stopped(0));
        SlantOaths y = Checks.table(8);
        String oaths = "l0/1;l0/2;l0/3;l0/4;l0/5;l0/6;l0/7;l1/2;l1/3;l1/4;l1/5;l1/6";
        Checks.due("twelve oaths", 12, () -> Checks.work(y, oaths));
        Checks.due("all are sworn", 12, () -> y.count(1));
    }

    private static void undoneAsOneCall() {
        Checks.of("11: Undoable, as one call, also if nothing is done.");
        SlantOaths x = Checks.table(3);
        long before = x.digest();
        Checks.work(x, "l0/1;y9;d2;u0/1;y9");
        Checks.due("one state", 4, () -> x.count(17));
        Checks.due("undone", 3, x::undo);
        Checks.due("all of it", before, x::digest);
        Checks.work(x, "d7");
        Checks.due("nothing was done, one state", 4, () -> x.count(17));
        Checks.due("undone", 3, x::undo);
        Checks.due("also the stop", before, x::digest);
        Checks.work(x, "y1");
        Checks.work(x, "l0/0;y1");
        Checks.due("two states", 5, () -> x.count(17));
        x.undo();
        Checks.due("the year stays", 1, () -> x.sheet(0, 1));
    }

    private static void latestStop() {
        Checks.of("11: The latest stop is that of this call then, or none, if all are done.");
        SlantOaths x = Checks.table(2);
        Checks.due("none at first", -2, () -> x.stopped(0) + x.stopped(1));
        Checks.work(x, "y1;l0/0");
        Checks.due("its part", 1, () -> x.stopped(0));
        Checks.due("its reason", 1, () -> x.stopped(1));
        Checks.work(x, "d7");
        Checks.due("the later one's part", 0, () -> x.stopped(0));
        Checks.due("the later one's reason", 7, () -> x.stopped(1));
        Checks.write(x, "d");
        Checks.refuses("a refused call leaves it", x, Checks.ARGUMENT, x::work);
        Checks.due("it is there", 7, () -> x.stopped(1));
        Checks.due("a refused oath", Checks.STATE, () -> x.swear(0, 0, true));
        Checks.due("is no stop of work", 7, () -> x.stopped(1));
        Checks.work(x, "y1");
        Checks.due("none, as all is done", -1, () -> x.stopped(0));
        Checks.due("no reason either", -1, () -> x.stopped(1));
        x.undo();
        Checks.due("undone, it is there again", 7, () -> x.stopped(1));
    }

    private static void stop(SlantOaths x, String text, int part, int reason) {
        Checks.due("works " + text, part, () -> Checks.work(x, text));
        Checks.due("part of " + text, part, () -> x.stopped(0));
        Checks.due("reason of " + text, reason, () -> x.stopped(1));
    }

    private static void reasons() {
        Checks.of("12: 0: the number of the part that stopped it, from 0; 1: the reason, 1 to 6, or 7 if there is"
                + " no such sheet");
        SlantOaths x = Checks.table(4);
        Checks.lay(x, "0:9op5~9", 0);
        Checks.lay(x, "20:60p9", 0);
        stop(x, "l5/5", 0, 1);
        stop(x, "u4/4", 0, 1);
        stop(x, "l0/1;l1/0", 1, 2);
        stop(x, "y1;y1;u0/1", 2, 2);
        stop(x, "l4/5", 0, 3);
        stop(x, "l0/5", 0, 4);
        stop(x, "u1/2;l2/0", 1, 5);
        stop(x, "l0/3;u3/1", 1, 6);
        stop(x, "d6", 0, 7);
        stop(x, "l6/0", 0, 7);
        stop(x, "l0/6", 0, 7);
        stop(x, "u6/6", 0, 7);
        stop(x, "l7/7", 0, 7);
        stop(x, "d5;d5", 1, 7);
        stop(x, "y1;".repeat(19) + "d7", 19, 7);
    }

    private static void noStop() {
        Checks.of("12: Returns the number; NONE if there is no stop.");
        SlantOaths x = new SlantOaths();
        Checks.row("without a stop", new int[] {-1, -1}, x::stopped);
        Checks.work(x, "y1;y2");
        Checks.row("works without a stop", new int[] {-1, -1}, x::stopped);
        Checks.work(x, "d0");
        Checks.row("with a stop", new int[] {0, 7}, x::stopped);
        Checks.work(x, "y1");
        Checks.row("all is done", new int[] {-1, -1}, x::stopped);
    }

    private static void stoppedWhat() {
        Checks.of("12: Throws `IllegalArgumentException` if what is neither 0 nor 1");
        SlantOaths x = new SlantOaths();
        for (int what : new int[] {-1, 2, 7, Integer.MIN_VALUE, Integer.MAX_VALUE}) {
            Checks.refuses("without a stop, " + what, x, Checks.ARGUMENT, () -> x.stopped(what));
        }
        Checks.work(x, "d0");
        for (int what : new int[] {-1, 2, 7, Integer.MIN_VALUE, Integer.MAX_VALUE}) {
            Checks.refuses("with a stop, " + what, x, Checks.ARGUMENT, () -> x.stopped(what));
        }
    }
}
