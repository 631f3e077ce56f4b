import java.util.regex.Matcher;
import java.util.regex.Pattern;

/** Promises 8 to 12: append, clearBuffer, firstError, work, stopped. */
public final class TextsTest {
    private static final String SIGNS = "0123456789-:op~,;/luyd";

    public static void main(String[] args) {
        append();
        clearBuffer();
        sheetErrors();
        workErrors();
        everyShortText();
        work();
        stops();
        Checks.end("TextsTest");
    }

    private static void append() {
        SlantOaths x = new SlantOaths();
        for (int code : new int[] {32, 127, 0, -1, Integer.MAX_VALUE, Integer.MIN_VALUE, 65568}) {
            Checks.refuses("8: append(" + code + ")", x, Checks.ARGUMENT, () -> x.append(code));
        }
        Checks.due("8: append(33)", 1, () -> x.append(33));
        Checks.due("8: append(126)", 2, () -> x.append(126));
        for (int i = 3; i <= 60; i++) {
            Checks.due("8: length " + i, i, () -> x.append('a'));
        }
        Checks.refuses("8: full", x, Checks.STATE, () -> x.append('a'));
        Checks.refuses("8: full, a wrong code first", x, Checks.ARGUMENT, () -> x.append(32));
        Checks.due("8: not undoable", 0, () -> x.count(17));
    }

    private static void clearBuffer() {
        SlantOaths x = new SlantOaths();
        Checks.due("9: empty", 0, x::clearBuffer);
        Checks.write(x, "abc");
        Checks.due("9: three", 3, x::clearBuffer);
        Checks.due("9: empty again", 0, x::clearBuffer);
        Checks.due("9: not undoable", 0, () -> x.count(17));
        Checks.due("9: the next is the first", 1, () -> x.append('a'));
    }

    private static void error(String text, boolean areWorks, int want) {
        SlantOaths x = new SlantOaths();
        Checks.write(x, text);
        long before = x.digest();
        Checks.due("10: " + text + (areWorks ? " as works" : " as a sheet"), want, () -> x.firstError(areWorks));
        Checks.due("10: changes nothing", before, x::digest);
    }

    private static void sheetErrors() {
        for (String text : new String[] {"", "0:1p1", "45:60op9~9", "-45:1p1", "-1:9op1,0:1p1,", "4", "-", "-4",
                "1:6", "1:6o", "1:60", "1:6p1~", "39:59p9"}) {
            error(text, false, text.length());
        }
        error("46", false, 1);
        error("50", false, 1);
        error("01", false, 1);
        error("--1", false, 1);
        error("-0", false, 1);
        error("-46", false, 2);
        error(":", false, 0);
        error("1p", false, 1);
        error("100", false, 2);
        error("1:0", false, 2);
        error("1:61", false, 3);
        error("1:600", false, 4);
        error("1:70", false, 3);
        error("1:p", false, 2);
        error("1:6~", false, 3);
        error("1:6oo", false, 4);
        error("1:6p0", false, 4);
        error("1:6p10", false, 5);
        error("1:6p1o", false, 5);
        error("1:6p1~0", false, 6);
        error("1:6p1~10", false, 7);
        error("1:6p1~11", false, 7);
        error("1:6p1~1~", false, 7);
        error("1:6p1;", false, 5);
        error("1:6p1,,", false, 6);
        error("x1:6p1", false, 0);
        error("0:1p1,0:1p1,0:1p1,0:1p1,0:1p1,0:1p1,0:1p1,0:1p1", false, 47);
        error("0:1p1,0:1p1,0:1p1,0:1p1,0:1p1,0:1p1,0:1p1,0:1p1,", false, 47);
        error("0:1p1,0:1p1,0:1p1,0:1p1,0:1p1,0:1p1,0:1p1,0:1p1,0:1p1", false, 47);
        error("45:60op9~9,45:60op9~9,45:60op9~9,45:60op9~9,45:60op9~9,45:60", false, 60);
    }

    private static void workErrors() {
        for (String text : new String[] {"", "l", "l0", "l0/", "l0/7", "u7/7", "y", "y1", "y9", "y99", "d0;",
                "y1;d7;l0/1;u2/3"}) {
            error(text, true, text.length());
        }
        error("l8", true, 1);
        error("l00", true, 2);
        error("l0/8", true, 3);
        error("l0/77", true, 4);
        error("l0:", true, 2);
        error("l-", true, 1);
        error("y0", true, 1);
        error("y01", true, 1);
        error("y100", true, 3);
        error("d8", true, 1);
        error("d10", true, 2);
        error(";", true, 0);
        error("d1;;", true, 3);
        error("d1,", true, 2);
        error("0:1p1", true, 0);
        error("L0/1", true, 0);
        error("d0;".repeat(20), true, 60);
        error("d0;".repeat(19) + "d0", true, 59);
        error("d0;".repeat(19) + "d0/", true, 59);
    }

    /** Behind a few beginnings, every character: the regular expressions tell whether a text goes on so. */
    private static void everyShortText() {
        String stroke = "(0|-?([1-9]|[1-3][0-9]|4[0-5])):([1-9]|[1-5][0-9]|60)o?p[1-9](~[1-9])?";
        Pattern sheet = Pattern.compile(stroke + "(," + stroke + "){0,7}");
        String part = "([lu][0-7]/[0-7]|y[1-9][0-9]?|d[0-7])";
        Pattern works = Pattern.compile(part + "(;" + part + ")*");
        String[] starts = {"", "-", "4", "-4", "0", "3", "12", "1:", "1:6", "1:5", "1:9", "1:60", "1:6o", "1:6p",
            "1:6p1", "1:6op1", "1:6p1~", "1:6p1~3", "1:6p1,", "1:6p1,-", "0:1p1,0:1p1,0:1p1,0:1p1,0:1p1,0:1p1,0:1p1",
            "0:1p1,0:1p1,0:1p1,0:1p1,0:1p1,0:1p1,0:1p1,0:1p1", "l", "u", "l0", "u7/", "l1/2", "y", "y1", "y9", "y10",
            "d", "d3", "d3;", "y3;", "l1/2;"};
        for (String start : starts) {
            for (int i = 0; i < SIGNS.length(); i++) {
                String text = start + SIGNS.charAt(i);
                error(text, false, firstError(sheet, text));
                error(text, true, firstError(works, text));
            }
        }
    }

    private static int firstError(Pattern pattern, String text) {
        for (int end = 1; end <= text.length(); end++) {
            Matcher matcher = pattern.matcher(text.substring(0, end));
            if (!matcher.matches() && !matcher.hitEnd()) {
                return end - 1;
            }
        }
        return text.length();
    }

    private static void work() {
        SlantOaths x = Checks.alike(4);
        int saved = x.count(17);
        Checks.due("11: five parts", 5, () -> Checks.work(x, "l0/1;u2/1;y30;d3;y70"));
        Checks.due("11: clears the buffer", 0, x::clearBuffer);
        Checks.due("11: saved as one call", saved + 1, () -> x.count(17));
        Checks.due("11: one hand", 1, () -> x.compare(1, 0, 4));
        Checks.due("11: two hands", 0, () -> x.compare(1, 2, 4));
        Checks.due("11: at most 99", 99, () -> x.sheet(0, 1));
        Checks.due("11: three sheets", 3, () -> x.count(0));
        Checks.due("12: no stop", -1, () -> x.stopped(0));
        Checks.due("12: no reason", -1, () -> x.stopped(1));
        x.undo();
        Checks.due("11: undo takes all back", 4, () -> x.count(0));
        Checks.due("11: no oath then", 0, () -> x.count(1));
        Checks.due("11: young again", 1, () -> x.sheet(0, 1));
        Checks.due("11: y without sheets is done", 1, () -> Checks.work(new SlantOaths(), "y5"));
        for (String text : new String[] {"", "y", "d", "l0", "l0/", "d0;", "x", "0:1p1", "d0;d0x"}) {
            Checks.write(x, text);
            Checks.refuses("11: work of " + text, x, Checks.ARGUMENT, x::work);
            Checks.due("11: the buffer stays, " + text, text.length(), x::clearBuffer);
        }
        SlantOaths many = Checks.alike(2);
        Checks.due("11: twenty parts", 20, () -> Checks.work(many, "y1;".repeat(19) + "y1"));
        Checks.due("11: twenty years", 21, () -> many.sheet(1, 1));
    }

    private static void stop(SlantOaths x, String text, int done, int reason) {
        Checks.due("11: " + text, done, () -> Checks.work(x, text));
        Checks.due("12: part of " + text, reason == -1 ? -1 : done, () -> x.stopped(0));
        Checks.due("12: reason of " + text, reason, () -> x.stopped(1));
        Checks.due("11: cleared behind " + text, 0, x::clearBuffer);
    }

    private static void stops() {
        SlantOaths x = Checks.alike(4);
        Checks.lay(x, "10:20op5~9,12:24p6", 1);
        Checks.lay(x, "-40:60p1", 1);
        stop(x, "l0/0;y1", 0, 1);
        stop(x, "u1/1", 0, 1);
        stop(x, "l0/1;u1/0;y9", 1, 2);
        Checks.due("11: what is behind the stop is not done", 1, () -> x.sheet(0, 1));
        stop(x, "l0/4", 0, 3);
        stop(x, "l0/5", 0, 4);
        stop(x, "u1/2;l2/0", 1, 5);
        stop(x, "y1;y1;u1/0", 2, 2);
        stop(x, "l0/3;u1/3", 1, 6);
        stop(x, "d6", 0, 7);
        stop(x, "l0/6", 0, 7);
        stop(x, "u7/0", 0, 7);
        stop(x, "l7/7", 0, 7);
        Checks.refuses("12: a refused work leaves the stop", x, Checks.ARGUMENT, x::work);
        stop(x, "d5;d5", 1, 7);
        Checks.due("11: saved also if nothing is done", 6, () -> x.count(17));
        x.undo();
        Checks.due("12: undo brings the stop before back", 0, () -> x.stopped(0));
        Checks.due("12: and its reason", 7, () -> x.stopped(1));
        x.pass(1);
        Checks.due("12: others leave the stop", 7, () -> x.stopped(1));
        stop(x, "y1", 1, -1);
        x.undo();
        Checks.due("12: the stop is there again", 7, () -> x.stopped(1));
        for (int what : new int[] {-1, 2, Integer.MAX_VALUE, Integer.MIN_VALUE}) {
            Checks.refuses("12: stopped(" + what + ")", x, Checks.ARGUMENT, () -> x.stopped(what));
        }
    }
}
