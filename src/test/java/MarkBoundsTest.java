/** Each sentence of "Marks" and "Likeness", and of promises 18, 19 and 23 to 25, that names a boundary case. */
public final class MarkBoundsTest {
    /** For each mark two sheets that differ in it alone, and by how much they do. */
    private static final String[][] PAIRS = {
        {"0:20op5", "4:20op5"},
        {"0:20op5,0:20op5", "-5:20op5,5:20op5"},
        {"0:20op5,0:20p5", "0:26op5,0:14p5"},
        {"0:20op5,0:20p5,0:20p5,0:20p5,0:20p5", "0:20op5,0:20op5,0:20p5,0:20p5,0:20p5"},
        {"0:20op5", "0:20op6"},
        {"0:20op5,0:20op5,0:20op5", "0:20op4,0:20op6,0:20op5"},
    };
    private static final int[] APART = {4, 10, 3, 20, 10, 15};

    public static void main(String[] args) {
        roundedDown();
        meanSlant();
        slantRange();
        loopHeights();
        loopHundredths();
        pressures();
        pressureSteps();
        meanOfMeans();
        fading();
        notYetFaded();
        fadingMarks();
        toldMark();
        oneStroke();
        atMostTheTolerance();
        tenYears();
        fadedInOne();
        howManyAgree();
        maskOfMarks();
        withItself();
        trembling();
        countOfTrembling();
        nearest();
        nearestWithout();
        leastTolerance();
        toleranceAbove50();
        toleranceOfFaded();
        ifPassed();
        ifPassedOutOfRange();
        ifPassedAtMost99();
        Checks.end("MarkBoundsTest");
    }

    private static void mark(int mark, String text, int want) {
        SlantOaths x = new SlantOaths();
        Checks.due("lay of " + text, 0, () -> Checks.lay(x, text, 0));
        Checks.due("mark " + mark + " of " + text, 1000 + want, () -> x.mark(0, mark));
    }

    private static void roundedDown() {
        Checks.of("divisions are rounded down (towards the lesser number, also below 0).");
        mark(0, "-1:9p1,0:9p1", -1);
        mark(0, "-1:9p1,-2:9p1", -2);
        mark(0, "-1:9p1,-1:9p1", -1);
        mark(0, "-1:9p1,1:9p1", 0);
        mark(0, "0:1p1,0:1p1,0:1p1,0:1p1,0:1p1,0:1p1,0:1p1,-1:1p1", -1);
        mark(0, "0:1p1,0:1p1,0:1p1,0:1p1,0:1p1,0:1p1,0:1p1,1:1p1", 0);
        mark(0, "-45:1p1,-45:1p1,-44:1p1", -45);
        mark(0, "-45:1p1,-44:1p1,-44:1p1", -45);
        mark(0, "45:1p1,45:1p1,44:1p1", 44);
        mark(3, "0:1op1,0:1op1,0:1p1", 66);
        mark(4, "0:1p1,0:1p1,0:1p2", 13);
    }

    private static void meanSlant() {
        Checks.of("0: the mean slant of its strokes;");
        mark(0, "-45:1p1", -45);
        mark(0, "45:1p1", 45);
        mark(0, "0:1p1", 0);
        mark(0, "-45:1p1,45:1p1", 0);
        mark(0, "45:1p1,45:1p1,45:1p1,45:1p1,45:1p1,45:1p1,45:1p1,45:1p1", 45);
    }

    private static void slantRange() {
        Checks.of("1: its greatest slant less its least one;");
        mark(1, "-45:1p1", 0);
        mark(1, "45:1p1,45:1p1", 0);
        mark(1, "-45:1p1,45:1p1", 90);
        mark(1, "45:1p1,-45:1p1", 90);
        mark(1, "-45:1p1,-1:1p1", 44);
        mark(1, "0:1p1,45:1p1,-45:1p1,0:1p1", 90);
        mark(1, "1:1p1,2:1p1,3:1p1,4:1p1,5:1p1,6:1p1,7:1p1,8:1p1", 7);
    }

    private static void loopHeights() {
        Checks.of("2: the mean height of strokes with a loop, times 10, divided by the mean height of all"
                + " strokes; 0 without a loop;");
        mark(2, "0:60p1", 0);
        mark(2, "0:1p1,0:60p1", 0);
        mark(2, "0:1op1", 10);
        mark(2, "0:60op1", 10);
        mark(2, "0:60op1,0:1op1", 10);
        mark(2, "0:60op1,0:1p1,0:1p1,0:1p1,0:1p1,0:1p1,0:1p1,0:1p1", 75);
        mark(2, "0:1op1,0:60p1", 0);
        mark(2, "0:3op1,0:60p1", 0);
        mark(2, "0:4op1,0:60p1", 1);
        mark(2, "0:1p1,0:1p1,0:1p1,0:1p1,0:1p1,0:1p1,0:1p1,0:1op1", 10);
    }

    private static void loopHundredths() {
        Checks.of("3: hundredths of strokes with a loop;");
        mark(3, "0:1p1", 0);
        mark(3, "0:1op1", 100);
        mark(3, "0:1op1,0:1p1,0:1p1,0:1p1,0:1p1,0:1p1,0:1p1,0:1p1", 12);
        mark(3, "0:1op1,0:1op1,0:1op1,0:1op1,0:1op1,0:1op1,0:1op1,0:1p1", 87);
        mark(3, "0:1op1,0:1op1,0:1op1,0:1op1,0:1op1,0:1op1,0:1op1,0:1op1", 100);
        mark(3, "0:1p1,0:1p1,0:1op1", 33);
    }

    private static void pressures() {
        Checks.of("4: the sum of pressures, times 10, divided by the strokes;");
        mark(4, "0:1p1", 10);
        mark(4, "0:1p9", 90);
        mark(4, "0:1p9,0:1p9,0:1p9,0:1p9,0:1p9,0:1p9,0:1p9,0:1p9", 90);
        mark(4, "0:1p1,0:1p1,0:1p1,0:1p1,0:1p1,0:1p1,0:1p1,0:1p2", 11);
        mark(4, "0:1p1,0:1p2", 15);
    }

    private static void pressureSteps() {
        Checks.of("5: the sum of the differences, without signs, of the pressures of neighbours, times 10,"
                + " divided by the strokes less 1; 0 with one stroke.");
        mark(5, "0:1p1", 0);
        mark(5, "0:1p9", 0);
        mark(5, "0:1p9,0:1p9", 0);
        mark(5, "0:1p1,0:1p9", 80);
        mark(5, "0:1p9,0:1p1", 80);
        mark(5, "0:1p9,0:1p1,0:1p9", 80);
        mark(5, "0:1p1,0:1p9,0:1p1,0:1p9,0:1p1,0:1p9,0:1p1,0:1p9", 80);
        mark(5, "0:1p1,0:1p1,0:1p2,0:1p2", 3);
        mark(5, "0:1p2,0:1p2,0:1p2,0:1p2,0:1p2,0:1p2,0:1p2,0:1p1", 1);
    }

    private static void meanOfMeans() {
        Checks.of("(A mean is a sum divided by how many there are, rounded down.)");
        mark(2, "0:1op1,0:2op1", 10);
        mark(2, "0:1op1,0:2op1,0:1p1", 10);
        mark(2, "0:19op1,0:20op1,0:1p1", 14);
        mark(2, "0:2op1,0:1p1", 20);
    }

    private static void fading() {
        Checks.of("The marks 2 and 3 have faded, if the sheet is setting 6 years old, or older.");
        SlantOaths x = new SlantOaths();
        for (int age : new int[] {0, 39, 40, 41, 98, 99}) {
            Checks.lay(x, "0:9op5", age);
        }
        int[][] settingAndFaded = {{40, 0, 0, 1, 1, 1, 1}, {41, 0, 0, 0, 1, 1, 1}, {39, 0, 1, 1, 1, 1, 1},
            {0, 1, 1, 1, 1, 1, 1}, {1, 0, 1, 1, 1, 1, 1}, {98, 0, 0, 0, 0, 1, 1}, {99, 0, 0, 0, 0, 0, 1}};
        for (int[] row : settingAndFaded) {
            x.set(6, row[0]);
            for (int i = 0; i < 6; i++) {
                int sheet = i;
                Checks.due("setting 6 is " + row[0], row[i + 1], () -> x.sheet(sheet, 6));
                Checks.due("agreeing then", row[i + 1] == 1 ? 51 : 63, () -> x.compare(sheet, sheet, 1));
            }
        }
        SlantOaths y = new SlantOaths();
        Checks.lay(y, "0:9op5", 38);
        Checks.due("a year before", 0, () -> y.pass(1) == 39 ? y.sheet(0, 6) : -1);
        Checks.due("by passing", 1, () -> y.pass(1) == 40 ? y.sheet(0, 6) : -1);
        Checks.due("and back", 0, () -> y.undo() < 0 ? -1 : y.sheet(0, 6));
    }

    /** All that goes by a likeness goes by the likeness of now, a year before the marks fade. */
    private static void notYetFaded() {
        Checks.of("if the sheet is setting 6 years old");
        SlantOaths x = new SlantOaths();
        Checks.lay(x, "0:9op5", 39);
        Checks.lay(x, "0:9op5", 39);
        Checks.lay(x, "0:9op5", 37);
        x.set(8, 6);
        Checks.due("likeness", 6, () -> x.compare(0, 1, 0));
        Checks.due("pairs", 3, () -> x.count(7));
        Checks.due("it can be sworn", 2, () -> x.swear(0, 1, true));
        Checks.due("share", 1.0, x::handShare);
        Checks.due("the lowest one is as near", 1, () -> x.nearest(0));
        Checks.due("in a year", 4, () -> x.ifPassed(0, 1, 1));
        x.pass(1);
        Checks.due("likeness then", 4, () -> x.compare(0, 1, 0));
        Checks.due("pairs then", 0, () -> x.count(7));
        Checks.due("not then", 4, () -> x.whyNot(0, 2, true));
        Checks.due("share then", 4 / 6.0, x::handShare);
        SlantOaths y = new SlantOaths();
        Checks.lay(y, "0:9op5", 39);
        Checks.lay(y, "0:9p5", 39);
        Checks.lay(y, "9:9op5", 39);
        Checks.due("the nearest one has a loop", 2, () -> y.nearest(0));
        Checks.due("the nearest one has its slant then", 1, () -> y.pass(1) < 0 ? -1 : y.nearest(0));
    }

    private static void fadingMarks() {
        Checks.of("18: Returns a mark of a sheet, also one that has faded.");
        SlantOaths x = new SlantOaths();
        Checks.lay(x, "3:20op5,5:20p7", 99);
        Checks.due("faded", 1, () -> x.sheet(0, 6));
        Checks.row("mark", new int[] {1004, 1002, 1010, 1050, 1060, 1020}, m -> x.mark(0, m));
        x.set(6, 0);
        Checks.row("mark, when all fade at once", new int[] {1004, 1002, 1010, 1050, 1060, 1020},
            m -> x.mark(0, m));
    }

    private static void toldMark() {
        Checks.of("18: Returns the mark, and 1000 more.");
        SlantOaths x = new SlantOaths();
        Checks.lay(x, "-45:1p1", 0);
        Checks.lay(x, "45:1op9,45:1op9", 0);
        Checks.row("the least", new int[] {955, 1000, 1000, 1000, 1010, 1000}, m -> x.mark(0, m));
        Checks.row("great ones", new int[] {1045, 1000, 1010, 1100, 1090, 1000}, m -> x.mark(1, m));
    }

    private static void oneStroke() {
        Checks.of("0 with one stroke.");
        SlantOaths x = new SlantOaths();
        Checks.lay(x, "7:33op4~5", 0);
        Checks.row("mark", new int[] {1007, 1000, 1010, 1100, 1040, 1000}, m -> x.mark(0, m));
    }

    private static SlantOaths pair(int mark, int age, int otherAge) {
        SlantOaths x = new SlantOaths();
        Checks.lay(x, PAIRS[mark][0], age);
        Checks.lay(x, PAIRS[mark][1], otherAge);
        return x;
    }

    private static void agrees(SlantOaths x, int mark, boolean want, String what) {
        int bit = want ? 1 << mark : 0;
        Checks.due("mark " + mark + ", " + what, bit, () -> x.compare(0, 1, 1) & (1 << mark));
        Checks.due("mark " + mark + ", from the other side, " + what, bit, () -> x.compare(1, 0, 1) & (1 << mark));
    }

    private static void atMostTheTolerance() {
        Checks.of("the two numbers differ by at most the tolerance of the mark (settings 0 to 5)");
        for (int m = 0; m < 6; m++) {
            SlantOaths x = pair(m, 0, 0);
            for (int other = 0; other < 6; other++) {
                x.set(other, 0);
            }
            Checks.due("they differ in mark " + m + " alone", 63 - (1 << m), () -> x.compare(0, 1, 1));
            x.set(m, APART[m]);
            Checks.due("by just the tolerance, mark " + m, 63, () -> x.compare(0, 1, 1));
            agrees(x, m, true, "by just the tolerance");
            x.set(m, APART[m] - 1);
            agrees(x, m, false, "by one more than the tolerance");
            x.set(m, 50);
            agrees(x, m, true, "by the greatest tolerance");
        }
    }

    private static void tenYears() {
        Checks.of("and 1 more for each 10 years by which the ages differ.");
        int[][] agesAndMore = {{0, 0, 0}, {0, 9, 0}, {0, 10, 1}, {5, 15, 1}, {9, 10, 0}, {1, 20, 1}, {0, 20, 2},
            {20, 39, 1}, {19, 39, 2}, {9, 39, 3}};
        for (int m = 0; m < 6; m++) {
            for (int[] row : agesAndMore) {
                SlantOaths x = pair(m, row[0], row[1]);
                SlantOaths y = pair(m, row[1], row[0]);
                String what = "ages " + row[0] + " and " + row[1];
                x.set(m, APART[m] - row[2]);
                agrees(x, m, true, what);
                y.set(m, APART[m] - row[2]);
                agrees(y, m, true, what + " the other way round");
                x.set(m, APART[m] - row[2] - (APART[m] > row[2] ? 1 : 0));
                agrees(x, m, APART[m] == row[2], what + ", one less");
            }
        }
        SlantOaths far = new SlantOaths();
        Checks.lay(far, "0:9op5", 0);
        Checks.lay(far, "9:9op5", 99);
        Checks.lay(far, "10:9op5", 99);
        far.set(0, 0);
        agrees(far, 0, true, "nine more for 99 years");
        Checks.due("but not ten", 0, () -> far.compare(0, 2, 1) & 1);
    }

    private static void fadedInOne() {
        Checks.of("Two sheets agree in a mark, if it has faded in none of both");
        SlantOaths x = new SlantOaths();
        Checks.lay(x, "0:9op5", 39);
        Checks.lay(x, "0:9op5", 40);
        Checks.lay(x, "0:9op5", 39);
        Checks.lay(x, "0:9op5", 99);
        Checks.due("in none", 63, () -> x.compare(0, 2, 1));
        Checks.due("in the other", 51, () -> x.compare(0, 1, 1));
        Checks.due("in the first", 51, () -> x.compare(1, 2, 1));
        Checks.due("in both", 51, () -> x.compare(1, 3, 1));
        x.set(2, 50);
        x.set(3, 50);
        Checks.due("whatever the tolerance is", 51, () -> x.compare(1, 0, 1));
        Checks.due("their likeness", 4, () -> x.compare(1, 0, 0));
    }

    private static void howManyAgree() {
        Checks.of("Their likeness is how many marks agree.");
        SlantOaths x = new SlantOaths();
        Checks.lay(x, "0:10p1,0:10p1", 0);
        Checks.lay(x, "1:10op2,3:10p4", 0);
        for (int m = 0; m < 6; m++) {
            x.set(m, 0);
        }
        Checks.due("none", 0, () -> x.compare(0, 1, 0));
        Checks.due("none, as a mask", 0, () -> x.compare(0, 1, 1));
        for (int m = 0; m < 6; m++) {
            int mark = m;
            x.set(m, 50);
            Checks.due("up to mark " + m, m + 1, () -> x.compare(0, 1, 0));
            Checks.due("up to mark " + m + ", as a mask", (2 << m) - 1, () -> x.compare(1, 0, 1));
            Checks.due("as behind a year", m + 1, () -> x.ifPassed(0, 1, 1));
            Checks.due("it was mark " + m, 1 << m, () -> x.compare(0, 1, 1) & (1 << mark));
        }
    }

    private static void maskOfMarks() {
        Checks.of("1: a mask of the marks that agree, with the bit m for the mark m");
        SlantOaths x = new SlantOaths();
        Checks.lay(x, "0:10p1,0:10p1", 0);
        Checks.lay(x, "1:10op2,3:10p4", 0);
        for (int m = 0; m < 6; m++) {
            x.set(m, 0);
        }
        int[] want = {1, 2, 4, 8, 16, 32};
        for (int m = 0; m < 6; m++) {
            x.set(m, 50);
            Checks.due("mark " + m + " alone", want[m], () -> x.compare(0, 1, 1));
            Checks.due("mark " + m + " alone, a likeness of", 1, () -> x.compare(1, 0, 0));
            x.set(m, 0);
        }
        Checks.due("none", 0, () -> x.compare(0, 1, 1));
        Checks.due("all", 63, () -> x.compare(1, 1, 1));
    }

    private static void withItself() {
        Checks.of("19: Compares two sheets (also one with itself).");
        SlantOaths x = new SlantOaths();
        Checks.lay(x, "-45:1op1,45:60p9", 0);
        Checks.lay(x, "-45:1op1,45:60p9", 99);
        for (int m = 0; m < 6; m++) {
            x.set(m, 0);
        }
        Checks.row("young", new int[] {6, 63, 1, 1, -1}, w -> x.compare(0, 0, w));
        Checks.row("faded", new int[] {4, 51, 1, 1, -1}, w -> x.compare(1, 1, w));
    }

    private static void trembling() {
        Checks.of("A sheet trembles, if the sum of its tremors is above its strokes times setting 7.");
        String[] texts = {"0:1p1~2", "0:1p1~3", "0:1p1~4,0:1p1", "0:1p1~4,0:1p1~1", "0:1p1",
            "0:1p1~9,0:1p1~7,0:1p1,0:1p1,0:1p1,0:1p1,0:1p1,0:1p1"};
        SlantOaths x = new SlantOaths();
        for (String text : texts) {
            Checks.lay(x, text, 0);
        }
        Checks.row("above 2", new int[] {0, 1, 0, 1, 0, 0}, i -> x.sheet(i, 3));
        Checks.due("how many", 2, () -> x.count(5));
        x.set(7, 1);
        Checks.row("above 1", new int[] {1, 1, 1, 1, 0, 1}, i -> x.sheet(i, 3));
        x.set(7, 0);
        Checks.row("above 0", new int[] {1, 1, 1, 1, 0, 1}, i -> x.sheet(i, 3));
        x.set(7, 3);
        Checks.row("above 3", new int[] {0, 0, 0, 0, 0, 0}, i -> x.sheet(i, 3));
        SlantOaths most = new SlantOaths();
        Checks.lay(most, "0:1p1~9,0:1p1~9", 0);
        Checks.lay(most, "0:1p1~9,0:1p1~8", 0);
        most.set(7, 9);
        Checks.due("none is above 9", 0, () -> most.count(5));
        most.set(7, 8);
        Checks.row("above 8", new int[] {1, 1}, i -> most.sheet(i, 3));
    }

    private static void countOfTrembling() {
        Checks.of("5: sheets that tremble");
        SlantOaths x = new SlantOaths();
        Checks.due("without sheets", 0, () -> x.count(5));
        for (int i = 1; i <= 8; i++) {
            int sheets = i;
            Checks.lay(x, "0:1p1~3", 0);
            Checks.due("all of them", sheets, () -> x.count(5));
        }
        x.drop(0);
        Checks.due("seven are left", 7, () -> x.count(5));
        x.set(7, 3);
        Checks.due("none of seven", 0, () -> x.count(5));
    }

    private static void nearest() {
        Checks.of("23: Returns the other sheet with the greatest likeness, of several the lowest");
        SlantOaths x = Checks.table(8);
        Checks.row("all are alike", new int[] {1, 0, 0, 0, 0, 0, 0, 0}, x::nearest);
        SlantOaths y = new SlantOaths();
        for (String text : new String[] {"0:9op5", "9:9op5", "9:9op5", "20:9op9", "0:9op5", "0:9op5"}) {
            Checks.lay(y, text, 0);
        }
        Checks.row("some are", new int[] {4, 2, 1, 0, 0, 0}, y::nearest);
        SlantOaths none = new SlantOaths();
        Checks.lay(none, "0:1p1,1:60p9,-45:1p1", 0);
        Checks.lay(none, "45:60op9", 0);
        Checks.lay(none, "45:60op9", 99);
        for (int m = 0; m < 6; m++) {
            none.set(m, 0);
        }
        Checks.due("a likeness of 0", 0, () -> none.compare(0, 1, 0));
        Checks.due("the greatest of 0 and 0 is 0", 0, () -> none.compare(0, 2, 0));
        Checks.due("the lowest other one, though not alike", 1, () -> none.nearest(0));
        Checks.due("the last one's is the middle one", 1, () -> none.nearest(2));
    }

    private static void nearestWithout() {
        Checks.of("23: NONE without another one.");
        SlantOaths x = Checks.table(1);
        Checks.due("one sheet", -1, () -> x.nearest(0));
        Checks.lay(x, "45:60p9", 99);
        Checks.due("two sheets", 1, () -> x.nearest(0));
        x.drop(0);
        Checks.due("one sheet again", -1, () -> x.nearest(0));
        x.drop(0);
        Checks.refuses("no sheet", x, Checks.INDEX, () -> x.nearest(0));
    }

    private static void leastTolerance() {
        Checks.of("24: Returns the least value, 0 or more, of the tolerance");
        for (int m = 0; m < 6; m++) {
            int mark = m;
            for (int age : new int[] {0, 9, 10, 29, 30, 39}) {
                SlantOaths x = pair(m, 0, age);
                int want = Math.max(0, APART[m] - age / 10);
                Checks.due("mark " + m + ", age " + age, want, () -> x.toleranceFor(0, 1, mark));
                Checks.due("the other way round", want, () -> x.toleranceFor(1, 0, mark));
                x.set(m, want);
                agrees(x, m, true, "by it");
                x.set(m, Math.max(0, want - 1));
                agrees(x, m, want == 0, "by one less");
                Checks.due("the setting does not change it", want, () -> x.toleranceFor(0, 1, mark));
            }
        }
        SlantOaths x = new SlantOaths();
        Checks.lay(x, "0:9op5", 0);
        Checks.lay(x, "2:9op5", 30);
        Checks.lay(x, "3:9op5", 30);
        Checks.due("never below 0", 0, () -> x.toleranceFor(0, 1, 0));
        Checks.due("just 0", 0, () -> x.toleranceFor(0, 2, 0));
        Checks.row("with itself", new int[] {0, 0, 0, 0, 0, 0}, m -> x.toleranceFor(1, 1, m));
    }

    private static void toleranceAbove50() {
        Checks.of("24: also above 50");
        SlantOaths x = new SlantOaths();
        Checks.lay(x, "-45:1p1", 0);
        Checks.lay(x, "45:1op9", 0);
        Checks.lay(x, "45:60op1,-45:1p9,-45:1p1,-45:1p9,-45:1p1,-45:1p9,-45:1p1", 0);
        Checks.row("far apart", new int[] {90, 0, 10, 100, 80, 0}, m -> x.toleranceFor(0, 1, m));
        Checks.row("far apart", new int[] {12, 90, 66, 14, 34, 80}, m -> x.toleranceFor(0, 2, m));
        SlantOaths y = new SlantOaths();
        Checks.lay(y, "0:9p5", 0);
        Checks.lay(y, "-25:9p5,25:9p5", 0);
        Checks.lay(y, "-25:9p5,26:9p5", 0);
        Checks.due("just 50", 50, () -> y.toleranceFor(0, 1, 1));
        Checks.due("just 51", 51, () -> y.toleranceFor(0, 2, 1));
        y.set(1, 50);
        Checks.due("the greatest setting is enough", 6, () -> y.compare(0, 1, 0));
        Checks.due("the greatest setting is not enough", 5, () -> y.compare(0, 2, 0));
    }

    private static void toleranceOfFaded() {
        Checks.of("24: NONE if the mark has faded in one of them.");
        SlantOaths x = new SlantOaths();
        Checks.lay(x, "0:9op5", 39);
        Checks.lay(x, "0:9op5", 40);
        Checks.lay(x, "0:9op5", 99);
        Checks.row("in none", new int[] {0, 0, 0, 0, 0, 0}, m -> x.toleranceFor(0, 0, m));
        Checks.row("in the other", new int[] {0, 0, -1, -1, 0, 0}, m -> x.toleranceFor(0, 1, m));
        Checks.row("in the first", new int[] {0, 0, -1, -1, 0, 0}, m -> x.toleranceFor(1, 0, m));
        Checks.row("in both", new int[] {0, 0, -1, -1, 0, 0}, m -> x.toleranceFor(2, 1, m));
        Checks.row("in itself", new int[] {0, 0, -1, -1, 0, 0}, m -> x.toleranceFor(2, 2, m));
        x.set(6, 41);
        Checks.row("no longer", new int[] {0, 0, 0, 0, 0, 0}, m -> x.toleranceFor(0, 1, m));
    }

    private static void ifPassed() {
        Checks.of("25: `years`: 1 to 99");
        SlantOaths x = new SlantOaths();
        Checks.lay(x, "0:9op5", 0);
        Checks.lay(x, "0:9op5", 1);
        Checks.due("in 38 years", 6, () -> x.ifPassed(0, 1, 38));
        Checks.due("one fades first", 4, () -> x.ifPassed(0, 1, 39));
        Checks.due("the other one is a year behind", 6, () -> x.ifPassed(0, 0, 39));
        Checks.due("it fades, too", 4, () -> x.ifPassed(0, 0, 40));
        Checks.due("the least years", 6, () -> x.ifPassed(0, 1, 1));
        Checks.due("the most years", 4, () -> x.ifPassed(0, 1, 99));
        Checks.due("nobody got older", 1, () -> x.sheet(0, 1) + x.sheet(1, 1));
    }

    private static void ifPassedOutOfRange() {
        Checks.of("25: Throws `IllegalArgumentException` if years is out of range");
        SlantOaths x = Checks.table(2);
        for (int years : new int[] {0, -1, 100, Integer.MIN_VALUE, Integer.MAX_VALUE}) {
            Checks.refuses("years " + years, x, Checks.ARGUMENT, () -> x.ifPassed(0, 1, years));
            Checks.refuses("with itself, years " + years, x, Checks.ARGUMENT, () -> x.ifPassed(1, 1, years));
        }
    }

    private static void ifPassedAtMost99() {
        Checks.of("25: Returns their likeness, when all sheets are so much older, at most 99.");
        SlantOaths x = new SlantOaths();
        Checks.lay(x, "0:9op5", 49);
        Checks.lay(x, "5:9op5", 59);
        x.set(6, 99);
        Checks.due("ten years apart", 6, () -> x.compare(0, 1, 0));
        Checks.due("one before 99", 6, () -> x.ifPassed(0, 1, 39));
        Checks.due("the older one is 99, and fades", 4, () -> x.ifPassed(0, 1, 40));
        Checks.due("nine years apart, as 99 is the most", 3, () -> x.ifPassed(0, 1, 41));
        Checks.due("both are 99", 3, () -> x.ifPassed(0, 1, 50));
        Checks.due("and no older", 3, () -> x.ifPassed(1, 0, 99));
        SlantOaths old = new SlantOaths();
        Checks.lay(old, "0:9op5", 99);
        Checks.lay(old, "5:9op5", 0);
        Checks.due("99 and 98", 3, () -> old.ifPassed(0, 1, 98));
        Checks.due("99 and 89", 4, () -> old.ifPassed(0, 1, 89));
        Checks.due("99 and 90", 3, () -> old.ifPassed(1, 0, 90));
    }
}
