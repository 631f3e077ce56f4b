import java.math.BigInteger;
import java.util.List;

/** Each sentence of promises 16 to 19, 21 to 25 and 27 that names a boundary case of what is asked for. */
public final class LookBoundsTest {
    private static final int[] FAR = {-1, 8, Integer.MIN_VALUE, Integer.MAX_VALUE};
    private static final String EIGHT = "1:1p1,2:1op2,3:1p3,4:1op4,5:1p5,6:1op6,7:1p7,8:1op8";

    public static void main(String[] args) {
        sheetNumbers();
        noSuchSheet();
        sheetWhat();
        strokeNone();
        strokeSlant();
        strokeOutOfRange();
        markOutOfRange();
        compareWhat();
        countWhat();
        countSettings();
        countSaved();
        whyNotZero();
        toleranceOutOfRange();
        usedFor512Calls();
        digestBegins();
        digestOverflows();
        digestOfEmptyAndFull();
        digestOfTheBuffer();
        digestOfShares();
        Checks.end("LookBoundsTest");
    }

    private static void sheetNumbers() {
        Checks.of("16: `what`: 0: its strokes; 1: its age; 2: its strokes with a loop; 3: 1 if it trembles,"
                + " otherwise 0;");
        SlantOaths x = new SlantOaths();
        Checks.lay(x, "0:1p1", 0);
        Checks.lay(x, EIGHT, 99);
        Checks.lay(x, "0:1op1~9,0:1op1~9", 40);
        Checks.row("the least", new int[] {1, 0, 0, 0, 0, 0, 0}, w -> x.sheet(0, w));
        Checks.row("eight strokes", new int[] {8, 99, 4, 0, 1, 0, 1}, w -> x.sheet(1, w));
        Checks.row("all with a loop", new int[] {2, 40, 2, 1, 2, 0, 1}, w -> x.sheet(2, w));
    }

    private static void noSuchSheet() {
        Checks.noSheet("16: sheet", (x, sheet) -> x.sheet(sheet, 0));
        Checks.noSheet("17: stroke", (x, sheet) -> x.stroke(sheet, 0, 0));
        Checks.noSheet("18: mark", (x, sheet) -> x.mark(sheet, 0));
        Checks.noSheet("23: nearest", (x, sheet) -> x.nearest(sheet));
        Checks.noSheets("19: compare", (x, sheet, other) -> x.compare(sheet, other, 0));
        Checks.noSheets("24: toleranceFor", (x, sheet, other) -> x.toleranceFor(sheet, other, 0));
        Checks.noSheets("25: ifPassed", (x, sheet, other) -> x.ifPassed(sheet, other, 1));
    }

    private static void sheetWhat() {
        Checks.of("16: Throws `IllegalArgumentException` if what is not 0 to 6");
        SlantOaths x = Checks.table(8);
        for (int what : new int[] {-1, 7, 8, FAR[2], FAR[3]}) {
            Checks.refuses("what " + what, x, Checks.ARGUMENT, () -> x.sheet(7, what));
        }
        Checks.due("the first one", 1, () -> x.sheet(7, 0));
        Checks.due("the last one", 0, () -> x.sheet(7, 6));
    }

    private static void strokeNone() {
        Checks.of("17: Returns the number; NONE if the sheet has not so many strokes.");
        SlantOaths x = new SlantOaths();
        Checks.lay(x, "5:6op7~8", 0);
        Checks.lay(x, EIGHT, 0);
        for (int s = 1; s < 8; s++) {
            int stroke = s;
            Checks.row("of one, stroke " + s, new int[] {-1, -1, -1, -1, -1}, w -> x.stroke(0, stroke, w));
            int[] want = {101 + s, 1, s % 2, s + 1, 0};
            Checks.row("of eight, stroke " + s, want, w -> x.stroke(1, stroke, w));
        }
        Checks.row("the only one", new int[] {105, 6, 1, 7, 8}, w -> x.stroke(0, 0, w));
        Checks.lay(x, "1:1p1,1:1p1,1:1p1,1:1p1,1:1p1,1:1p1,1:1p1", 0);
        Checks.due("the seventh of seven", 1, () -> x.stroke(2, 6, 1));
        Checks.due("none behind it", -1, () -> x.stroke(2, 7, 1));
    }

    private static void strokeSlant() {
        Checks.of("17: 0: its slant, and 100 more");
        SlantOaths x = new SlantOaths();
        Checks.lay(x, "-45:1p1,-1:1p1,0:1p1,1:1p1,45:1p1", 0);
        Checks.row("slants", new int[] {55, 99, 100, 101, 145}, s -> x.stroke(0, s, 0));
    }

    private static void strokeOutOfRange() {
        Checks.of("17: Throws `IllegalArgumentException` if stroke or what is out of range");
        SlantOaths x = new SlantOaths();
        Checks.lay(x, "5:6op7~8", 0);
        Checks.lay(x, EIGHT, 0);
        for (int sheet = 0; sheet < 2; sheet++) {
            int s = sheet;
            for (int bad : FAR) {
                Checks.refuses("stroke " + bad, x, Checks.ARGUMENT, () -> x.stroke(s, bad, 0));
            }
            for (int bad : new int[] {-1, 5, FAR[2], FAR[3]}) {
                Checks.refuses("what " + bad, x, Checks.ARGUMENT, () -> x.stroke(s, 0, bad));
                Checks.refuses("of none, what " + bad, x, Checks.ARGUMENT, () -> x.stroke(s, 7, bad));
            }
        }
        Checks.due("both are the last", 0, () -> x.stroke(1, 7, 4));
        Checks.due("both are the last, of none", -1, () -> x.stroke(0, 7, 4));
    }

    private static void markOutOfRange() {
        Checks.of("18: Throws `IllegalArgumentException` if mark is out of range");
        SlantOaths x = Checks.table(1);
        for (int bad : new int[] {-1, 6, 7, FAR[2], FAR[3]}) {
            Checks.refuses("mark " + bad, x, Checks.ARGUMENT, () -> x.mark(0, bad));
        }
        Checks.due("the first one", 1000, () -> x.mark(0, 0));
        Checks.due("the last one", 1000, () -> x.mark(0, 5));
    }

    private static void compareWhat() {
        Checks.of("19: Throws `IllegalArgumentException` if what is not 0 to 4");
        SlantOaths x = Checks.table(2);
        for (int bad : new int[] {-1, 5, 6, FAR[2], FAR[3]}) {
            Checks.refuses("what " + bad, x, Checks.ARGUMENT, () -> x.compare(0, 1, bad));
            Checks.refuses("with itself, what " + bad, x, Checks.ARGUMENT, () -> x.compare(1, 1, bad));
        }
        Checks.row("all", new int[] {6, 63, 0, 0, -1}, w -> x.compare(0, 1, w));
    }

    private static void countWhat() {
        Checks.of("21: Throws `IllegalArgumentException` if what is not 0 to 17");
        for (SlantOaths x : List.of(new SlantOaths(), Checks.table(8))) {
            for (int bad : new int[] {-1, 18, 19, FAR[2], FAR[3]}) {
                Checks.refuses("count " + bad, x, Checks.ARGUMENT, () -> x.count(bad));
            }
        }
        SlantOaths full = Checks.table(8);
        int[] want = {8, 0, 0, 8, 1, 0, 0, 28, 4, 10, 3, 20, 8, 6, 40, 2, 4, 6};
        Checks.row("of a full table, count", want, full::count);
    }

    private static void countSettings() {
        Checks.of("8 to 16: the settings 0 to 8");
        SlantOaths x = new SlantOaths();
        for (int i = 0; i < 9; i++) {
            x.set(i, 0);
        }
        for (int i = 0; i < 9; i++) {
            x.set(i, i == 8 ? 6 : i + 1);
            for (int j = 0; j < 9; j++) {
                int other = j;
                Checks.due("setting " + j + ", changed up to " + i, j > i ? 0 : j == 8 ? 6 : j + 1,
                    () -> x.count(8 + other));
            }
        }
    }

    private static void countSaved() {
        Checks.of("21: 17: saved states");
        SlantOaths x = new SlantOaths();
        Checks.due("none", 0, () -> x.count(17));
        for (int i = 1; i <= 8; i++) {
            x.pass(1);
            int saved = Math.min(6, i);
            Checks.due("behind " + i, saved, () -> x.count(17));
        }
        x.undo();
        Checks.due("one less", 5, () -> x.count(17));
        x.pass(1);
        Checks.due("six again", 6, () -> x.count(17));
    }

    private static void whyNotZero() {
        Checks.of("22: Returns the reason, 1 to 6; 0 if it can.");
        SlantOaths x = Checks.table(3);
        for (boolean isLike : new boolean[] {true, false}) {
            Checks.due("it can", 0, () -> x.whyNot(0, 2, isLike));
            Checks.due("the least reason", 1, () -> x.whyNot(0, 0, isLike));
        }
        x.swear(0, 1, true);
        x.swear(1, 2, true);
        Checks.due("the greatest reason", 6, () -> x.whyNot(0, 2, false));
        Checks.due("it can still", 0, () -> x.whyNot(0, 2, true));
        Checks.due("nothing was sworn by it", 2, () -> x.count(1));
    }

    private static void toleranceOutOfRange() {
        Checks.of("24: Throws `IllegalArgumentException` if mark is out of range");
        SlantOaths x = Checks.table(2);
        for (int bad : new int[] {-1, 6, 7, FAR[2], FAR[3]}) {
            Checks.refuses("mark " + bad, x, Checks.ARGUMENT, () -> x.toleranceFor(0, 1, bad));
        }
        Checks.row("all", new int[] {0, 0, 0, 0, 0, 0}, m -> x.toleranceFor(0, 1, m));
    }

    private static void usedFor512Calls() {
        Checks.of("An object is used for at most 512 calls after it has been made");
        SlantOaths x = new SlantOaths();
        for (int call = 1; call <= 511; call++) {
            int years = 1 + call % 99;
            Checks.due("call " + call, -1, () -> x.pass(years));
        }
        Checks.due("the last call", 6, () -> x.count(17));
        SlantOaths y = new SlantOaths();
        for (int call = 1; call <= 504; call += 9) {
            Checks.due("lay, call " + call, 0, () -> Checks.lay(y, "0:9op5", 1));
            y.undo();
        }
        Checks.due("the last calls", 0, y::keep);
    }

    private static void digestBegins() {
        Checks.of("27: The hash starts at 3919.");
        SlantOaths x = new SlantOaths();
        Checks.due("of a new object", overflowing(Checks.digestValues(x, "")).longValue(), x::digest);
        Checks.due("22 values", 22, () -> Checks.digestValues(x, "").size());
    }

    private static BigInteger overflowing(List<Long> values) {
        BigInteger hash = BigInteger.valueOf(3919);
        for (long value : values) {
            hash = hash.multiply(BigInteger.valueOf(31)).add(BigInteger.valueOf(value));
        }
        return hash;
    }

    private static void digestOverflows() {
        Checks.of("27: the hash becomes 31 * hash + v, in long arithmetic with overflow.");
        boolean isBelow = false;
        boolean isAbove = false;
        for (int age = 0; age < 8; age++) {
            SlantOaths x = new SlantOaths();
            Checks.lay(x, "-45:60op9~9,1:1p1", age);
            Checks.lay(x, "45:1p1", 99);
            BigInteger all = overflowing(Checks.digestValues(x, ""));
            Checks.holds("it is greater than a long", () -> all.bitLength() > 64);
            Checks.due("its lowest 64 bits", all.longValue(), x::digest);
            isBelow |= x.digest() < 0;
            isAbove |= x.digest() > 0;
        }
        boolean isBoth = isBelow && isAbove;
        Checks.holds("on either side of 0", () -> isBoth);
    }

    private static void digestOfEmptyAndFull() {
        Checks.of("27: for each sheet its numbers 0 to 6");
        SlantOaths x = new SlantOaths();
        Model y = new Model();
        Checks.due("none", y.digest(), x::digest);
        for (int i = 0; i < 8; i++) {
            String text = i == 3 ? EIGHT : i + ":9op5";
            Checks.lay(x, text, i * 14);
            text.chars().forEach(y::append);
            y.lay(i * 14);
            Checks.due((i + 1) + " sheets", y.digest(), x::digest);
        }
        x.set(8, 0);
        y.set(8, 0);
        for (int i = 0; i < 8; i++) {
            for (int j = 0; j < i; j++) {
                x.swear(i, j, true);
                y.swear(i, j, true);
                Checks.due(i + " and " + j, y.digest(), x::digest);
            }
        }
        Checks.due("28 oaths", 28, () -> x.count(1));
    }

    private static void digestOfTheBuffer() {
        Checks.of("27: the length of the buffer and each of its character codes.");
        SlantOaths x = new SlantOaths();
        String buffer = "";
        for (int i = 0; i < 60; i++) {
            Checks.due("of " + i, Checks.digestByHand(new SlantOaths(), buffer), x::digest);
            buffer += (char) (33 + i * 93 / 59);
            x.append(33 + i * 93 / 59);
        }
        Checks.due("of 60", Checks.digestByHand(new SlantOaths(), buffer), x::digest);
        x.clearBuffer();
        Checks.due("empty", new SlantOaths().digest(), x::digest);
    }

    private static void digestOfShares() {
        Checks.of("27: the bits of handShare (as Double.doubleToLongBits)");
        for (int sheets = 2; sheets <= 8; sheets++) {
            SlantOaths x = new SlantOaths();
            Model y = new Model();
            x.set(8, 0);
            y.set(8, 0);
            for (int i = 0; i < sheets; i++) {
                String text = i * i % 46 + ":" + (9 + 7 * i) + (i % 2 == 0 ? "op" : "p") + (1 + i) + ",0:60op9";
                Checks.lay(x, text, i * 9);
                text.chars().forEach(y::append);
                y.lay(i * 9);
            }
            for (int i = 1; i < sheets; i++) {
                x.swear(i - 1, i, true);
                y.swear(i - 1, i, true);
                Checks.due(sheets + " sheets, " + i + " oaths", y.digest(), x::digest);
                Checks.due(sheets + " sheets, " + i + " oaths, share", y.handShare(), x::handShare);
            }
            for (int m = 0; m < 14; m++) {
                x.set(m % 6, m < 6 ? 0 : 50);
                y.set(m % 6, m < 6 ? 0 : 50);
                Checks.due(sheets + " sheets, tolerance " + m, y.digest(), x::digest);
                Checks.due(sheets + " sheets, tolerance " + m + ", share", y.handShare(), x::handShare);
            }
        }
        SlantOaths none = new SlantOaths();
        Checks.lay(none, "0:1p1,1:60p9,-45:1p1", 0);
        Checks.lay(none, "45:60op9", 0);
        for (int m = 0; m < 6; m++) {
            none.set(m, 0);
        }
        none.set(8, 0);
        none.swear(0, 1, true);
        Checks.due("the least share", 0.0, none::handShare);
        Checks.due("its bits", Checks.digestByHand(none, ""), none::digest);
    }
}
