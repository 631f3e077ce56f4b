/** Promises 16 to 21: sheet, stroke, mark, compare, oath, count. */
public final class LooksTest {
    private static final int[] WRONG = {-1, Integer.MIN_VALUE, Integer.MAX_VALUE, 100};

    public static void main(String[] args) {
        sheet();
        stroke();
        mark();
        compare();
        compareByAge();
        oath();
        count();
        Checks.end("LooksTest");
    }

    private static void sheet() {
        SlantOaths x = Checks.alike(3);
        Checks.lay(x, "10:20op5~3,12:24op6~3,12:24p6~1", 40);
        Checks.lay(x, "10:20op5~3,12:24p6~1", 39);
        x.swear(2, 1, true);
        x.swear(2, 3, false);
        Checks.row("16: sheet 0", new int[] {2, 1, 1, 0, 0, 0, 0}, w -> x.sheet(0, w));
        Checks.row("16: sheet 1", new int[] {2, 1, 1, 0, 1, 1, 0}, w -> x.sheet(1, w));
        Checks.row("16: sheet 2", new int[] {2, 1, 1, 0, 1, 2, 0}, w -> x.sheet(2, w));
        Checks.row("16: sheet 3", new int[] {3, 40, 2, 1, 3, 1, 1}, w -> x.sheet(3, w));
        Checks.row("16: sheet 4", new int[] {2, 39, 1, 0, 4, 0, 0}, w -> x.sheet(4, w));
        x.set(6, 1);
        Checks.due("16: faded by a setting", 1, () -> x.sheet(0, 6));
        x.set(7, 0);
        Checks.due("16: no tremor above none", 0, () -> x.sheet(0, 3));
        Checks.due("16: any tremor above none", 1, () -> x.sheet(4, 3));
        for (int bad : WRONG) {
            Checks.refuses("16: sheet " + bad, x, Checks.INDEX, () -> x.sheet(bad, 7));
            Checks.refuses("16: what " + bad, x, Checks.ARGUMENT, () -> x.sheet(0, bad));
        }
        Checks.refuses("16: sheet 5", x, Checks.INDEX, () -> x.sheet(5, 0));
        Checks.refuses("16: what 7", x, Checks.ARGUMENT, () -> x.sheet(0, 7));
    }

    private static void stroke() {
        SlantOaths x = new SlantOaths();
        Checks.lay(x, "-7:8op9~1,0:60p1", 3);
        Checks.row("17: stroke 0", new int[] {93, 8, 1, 9, 1}, w -> x.stroke(0, 0, w));
        Checks.row("17: stroke 1", new int[] {100, 60, 0, 1, 0}, w -> x.stroke(0, 1, w));
        Checks.row("17: stroke 2", new int[] {-1, -1, -1, -1, -1}, w -> x.stroke(0, 2, w));
        Checks.row("17: stroke 7", new int[] {-1, -1, -1, -1, -1}, w -> x.stroke(0, 7, w));
        for (int bad : WRONG) {
            Checks.refuses("17: sheet " + bad, x, Checks.INDEX, () -> x.stroke(bad, 8, 5));
            Checks.refuses("17: stroke " + bad, x, Checks.ARGUMENT, () -> x.stroke(0, bad, 0));
            Checks.refuses("17: what " + bad, x, Checks.ARGUMENT, () -> x.stroke(0, 0, bad));
        }
        Checks.refuses("17: sheet 1", x, Checks.INDEX, () -> x.stroke(1, 0, 0));
        Checks.refuses("17: stroke 8", x, Checks.ARGUMENT, () -> x.stroke(0, 8, 0));
        Checks.refuses("17: what 5", x, Checks.ARGUMENT, () -> x.stroke(0, 7, 5));
    }

    private static void mark() {
        SlantOaths x = new SlantOaths();
        Checks.lay(x, "-10:7op1,-3:10p4,2:11op9,-5:1p9", 0);
        Checks.lay(x, "-1:5p3,0:6p3", 99);
        Checks.lay(x, "-45:60op7", 40);
        Checks.lay(x, "45:60op9,-45:1p1", 40);
        Checks.row("18: sheet 0", new int[] {996, 1012, 1012, 1050, 1057, 1026}, m -> x.mark(0, m));
        Checks.row("18: sheet 1", new int[] {999, 1001, 1000, 1000, 1030, 1000}, m -> x.mark(1, m));
        Checks.row("18: sheet 2", new int[] {955, 1000, 1010, 1100, 1070, 1000}, m -> x.mark(2, m));
        Checks.row("18: sheet 3", new int[] {1000, 1090, 1020, 1050, 1050, 1080}, m -> x.mark(3, m));
        for (int bad : WRONG) {
            Checks.refuses("18: sheet " + bad, x, Checks.INDEX, () -> x.mark(bad, 6));
            Checks.refuses("18: mark " + bad, x, Checks.ARGUMENT, () -> x.mark(0, bad));
        }
        Checks.refuses("18: sheet 4", x, Checks.INDEX, () -> x.mark(4, 0));
        Checks.refuses("18: mark 6", x, Checks.ARGUMENT, () -> x.mark(0, 6));
    }

    private static void compare() {
        SlantOaths x = new SlantOaths();
        Checks.lay(x, "10:20op5", 1);
        Checks.lay(x, "14:20op5", 1);
        Checks.lay(x, "15:20op5", 1);
        Checks.lay(x, "10:20p6", 1);
        Checks.row("19: with itself", new int[] {6, 63, 1, 1, -1}, w -> x.compare(0, 0, w));
        Checks.row("19: by just the tolerance", new int[] {6, 63, 0, 0, -1}, w -> x.compare(0, 1, w));
        Checks.row("19: by one more", new int[] {5, 62, 0, 0, -1}, w -> x.compare(0, 2, w));
        Checks.row("19: without a loop", new int[] {3, 35, 0, 0, -1}, w -> x.compare(3, 0, w));
        x.swear(0, 1, true);
        x.swear(2, 1, true);
        x.swear(3, 0, false);
        Checks.row("19: through another", new int[] {5, 62, 1, 1, -1}, w -> x.compare(2, 0, w));
        Checks.row("19: an oath", new int[] {6, 63, 1, 1, 1}, w -> x.compare(1, 0, w));
        Checks.row("19: an oath of two hands", new int[] {3, 35, 0, 0, 0}, w -> x.compare(0, 3, w));
        x.set(0, 5);
        Checks.due("19: a greater tolerance", 6, () -> x.compare(0, 2, 0));
        for (int bad : WRONG) {
            Checks.refuses("19: sheet " + bad, x, Checks.INDEX, () -> x.compare(bad, 0, 5));
            Checks.refuses("19: other " + bad, x, Checks.INDEX, () -> x.compare(0, bad, 5));
            Checks.refuses("19: what " + bad, x, Checks.ARGUMENT, () -> x.compare(0, 1, bad));
        }
        Checks.refuses("19: sheet 4", x, Checks.INDEX, () -> x.compare(4, 0, 0));
        Checks.refuses("19: other 4", x, Checks.INDEX, () -> x.compare(0, 4, 0));
        Checks.refuses("19: what 5", x, Checks.ARGUMENT, () -> x.compare(0, 0, 5));
    }

    private static void compareByAge() {
        SlantOaths x = new SlantOaths();
        Checks.lay(x, "10:20op5", 0);
        Checks.lay(x, "15:20op5", 9);
        Checks.lay(x, "15:20op5", 10);
        Checks.lay(x, "17:20op5", 39);
        Checks.lay(x, "18:20op5", 40);
        Checks.due("19: nine years are nothing", 62, () -> x.compare(0, 1, 1));
        Checks.due("19: ten years are one more", 63, () -> x.compare(0, 2, 1));
        Checks.due("19: from the other side", 63, () -> x.compare(2, 0, 1));
        Checks.due("19: three more", 63, () -> x.compare(0, 3, 1));
        Checks.due("19: four more, two marks faded", 51, () -> x.compare(0, 4, 1));
        Checks.due("19: faded with itself", 51, () -> x.compare(4, 4, 1));
        Checks.due("19: likeness", 4, () -> x.compare(4, 0, 0));
    }

    private static void oath() {
        SlantOaths x = Checks.alike(4);
        x.swear(1, 0, true);
        x.swear(1, 2, true);
        x.swear(3, 1, false);
        Checks.row("20: oath 0", new int[] {1, 0, 1, 1}, w -> x.oath(0, w));
        Checks.row("20: oath 1", new int[] {1, 2, 1, 1}, w -> x.oath(1, w));
        Checks.row("20: oath 2", new int[] {3, 1, 0, 0}, w -> x.oath(2, w));
        Checks.row("20: oath 3", new int[] {-1, -1, -1, -1}, w -> x.oath(3, w));
        Checks.row("20: far behind", new int[] {-1, -1, -1, -1}, w -> x.oath(Integer.MAX_VALUE, w));
        x.swear(2, 0, true);
        Checks.row("20: in a ring 0", new int[] {1, 0, 1, 0}, w -> x.oath(0, w));
        Checks.row("20: in a ring 1", new int[] {1, 2, 1, 0}, w -> x.oath(1, w));
        Checks.row("20: in a ring 3", new int[] {2, 0, 1, 0}, w -> x.oath(3, w));
        x.recant(1, 0);
        Checks.row("20: the ring is open", new int[] {1, 2, 1, 1}, w -> x.oath(0, w));
        for (int bad : new int[] {-1, 4, Integer.MIN_VALUE, Integer.MAX_VALUE}) {
            Checks.refuses("20: what " + bad, x, Checks.ARGUMENT, () -> x.oath(0, bad));
            Checks.refuses("20: what of none " + bad, x, Checks.ARGUMENT, () -> x.oath(20, bad));
        }
        Checks.refuses("20: oath -1", x, Checks.ARGUMENT, () -> x.oath(-1, 0));
        SlantOaths full = Checks.alike(8);
        for (int i = 0; i < 8; i++) {
            for (int j = i + 1; j < 8; j++) {
                full.swear(j, i, true);
            }
        }
        Checks.due("20: all 28", 28, () -> full.count(1));
        Checks.row("20: the last one", new int[] {7, 6, 1, 0}, w -> full.oath(27, w));
        Checks.row("20: none behind", new int[] {-1, -1, -1, -1}, w -> full.oath(28, w));
        Checks.due("20: seven go", 7, () -> full.drop(3));
        Checks.row("20: the last one then", new int[] {6, 5, 1, 0}, w -> full.oath(20, w));
    }

    private static void count() {
        SlantOaths x = Checks.alike(4);
        Checks.lay(x, "10:20op5~9,12:24p6", 50);
        x.swear(0, 2, true);
        x.swear(2, 3, true);
        x.swear(3, 1, false);
        x.recant(3, 1);
        x.swear(1, 3, false);
        Checks.row("21: count", new int[] {5, 3, 2, 3, 3, 1, 4, 10, 4, 10, 3, 20, 8, 6, 40, 2, 4, 6}, x::count);
        x.set(8, 5);
        Checks.due("21: the faded one is less alike", 6, () -> x.count(7));
        x.set(8, 0);
        Checks.due("21: all pairs", 10, () -> x.count(7));
        x.set(7, 5);
        Checks.due("21: none trembles", 0, () -> x.count(5));
        for (int i = 0; i < 9; i++) {
            int setting = i;
            x.set(i, i == 8 ? 3 : i);
            Checks.due("21: setting " + i, i == 8 ? 3 : i, () -> x.count(8 + setting));
        }
        for (int bad : WRONG) {
            Checks.refuses("21: count " + bad, x, Checks.ARGUMENT, () -> x.count(bad));
        }
        Checks.refuses("21: count 18", x, Checks.ARGUMENT, () -> x.count(18));
    }
}
