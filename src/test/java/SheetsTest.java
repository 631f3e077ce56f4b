/** Promises 1 to 5: a new object, lay, drop, pass, set. */
public final class SheetsTest {
    public static void main(String[] args) {
        newObject();
        lay();
        layRefuses();
        drop();
        dropRenumbers();
        pass();
        set();
        Checks.end("SheetsTest");
    }

    private static void newObject() {
        SlantOaths x = new SlantOaths();
        Checks.due("1: NONE", -1, () -> SlantOaths.NONE);
        int[] counts = {0, 0, 0, 0, 0, 0, 0, 0, 4, 10, 3, 20, 8, 6, 40, 2, 4, 0};
        for (int i = 0; i < counts.length; i++) {
            int what = i;
            Checks.due("1: count " + i, counts[i], () -> x.count(what));
        }
        Checks.due("1: no snapshot", Checks.STATE, x::restore);
        Checks.due("1: no saved state", Checks.STATE, x::undo);
        Checks.due("1: no stop", -1, () -> x.stopped(0));
        Checks.due("1: no sheet", Checks.INDEX, () -> x.sheet(0, 0));
        Checks.due("1: no oath", -1, () -> x.oath(0, 0));
        Checks.due("1: empty buffer", 0, x::clearBuffer);
        Checks.due("1: two objects are alike", x.digest(), () -> new SlantOaths().digest());
    }

    private static void lay() {
        SlantOaths x = new SlantOaths();
        Checks.write(x, "-45:60op9~9,45:1p1");
        Checks.due("2: lay(99)", 0, () -> x.lay(99));
        Checks.due("2: lay clears the buffer", 0, x::clearBuffer);
        Checks.due("2: lay is undoable", 1, () -> x.count(17));
        int[][] strokes = {{55, 60, 1, 9, 9}, {145, 1, 0, 1, 0}};
        for (int s = 0; s < 2; s++) {
            for (int w = 0; w < 5; w++) {
                int stroke = s;
                int what = w;
                Checks.due("2: stroke " + s + " " + w, strokes[s][w], () -> x.stroke(0, stroke, what));
            }
        }
        Checks.due("2: age", 99, () -> x.sheet(0, 1));
        Checks.due("2: next number", 1, () -> Checks.lay(x, "0:1p1", 0));
        Checks.due("2: undo takes the sheet back", 1, x::undo);
        Checks.due("2: one sheet", 1, () -> x.count(0));
        Checks.due("2: undo leaves the buffer empty", 0, x::clearBuffer);
        Checks.due("2: eight strokes", 1, () -> Checks.lay(x, "0:1p1,1:1p1,2:1p1,3:1p1,4:1p1,5:1p1,6:1p1,7:1p1", 0));
        Checks.due("2: the eighth one", 107, () -> x.stroke(1, 7, 0));
    }

    private static void layRefuses() {
        SlantOaths x = new SlantOaths();
        Checks.refuses("2: empty buffer", x, Checks.ARGUMENT, () -> x.lay(0));
        for (String text : new String[] {"5:6", "5:6p", "5:6p1,", "5:6p1~", "-", "x", "5:6p1x", "y1"}) {
            Checks.write(x, text);
            Checks.refuses("2: lay of " + text, x, Checks.ARGUMENT, () -> x.lay(0));
            Checks.due("2: the buffer stays, " + text, text.length(), x::clearBuffer);
        }
        Checks.write(x, "5:6p1");
        for (int age : new int[] {-1, 100, Integer.MIN_VALUE, Integer.MAX_VALUE}) {
            Checks.refuses("2: lay(" + age + ")", x, Checks.ARGUMENT, () -> x.lay(age));
        }
        SlantOaths full = Checks.alike(8);
        Checks.write(full, "5:6p1");
        Checks.refuses("2: a ninth sheet", full, Checks.STATE, () -> full.lay(0));
        Checks.refuses("2: argument before state", full, Checks.ARGUMENT, () -> full.lay(100));
        Checks.due("2: the buffer stays when full", 5, full::clearBuffer);
        Checks.refuses("2: no text, when full", full, Checks.ARGUMENT, () -> full.lay(0));
    }

    private static void drop() {
        SlantOaths x = Checks.alike(3);
        x.swear(0, 1, true);
        x.swear(1, 2, false);
        Checks.refuses("3: drop(-1)", x, Checks.INDEX, () -> x.drop(-1));
        Checks.refuses("3: drop(3)", x, Checks.INDEX, () -> x.drop(3));
        Checks.due("3: two oaths go", 2, () -> x.drop(1));
        Checks.due("3: two sheets are left", 2, () -> x.count(0));
        Checks.due("3: no oath is left", 0, () -> x.count(1));
        Checks.due("3: sworn so far stays", 2, () -> x.count(6));
        Checks.due("3: no oath goes", 0, () -> x.drop(0));
        Checks.due("3: undo", 5, x::undo);
        Checks.due("3: undo again", 4, x::undo);
        Checks.due("3: the oaths are there again", 2, () -> x.count(1));
        Checks.due("3: the hand is there again", 0, () -> x.sheet(1, 4));
    }

    private static void dropRenumbers() {
        SlantOaths x = Checks.alike(2);
        Checks.lay(x, "11:20op5,13:24p6", 7);
        Checks.lay(x, "12:20op5,14:24p6", 8);
        x.swear(3, 2, true);
        x.swear(0, 1, true);
        x.swear(0, 3, false);
        Checks.due("3: one goes", 1, () -> x.drop(1));
        Checks.due("3: age moves down", 7, () -> x.sheet(1, 1));
        Checks.due("3: age moves down", 8, () -> x.sheet(2, 1));
        Checks.due("3: strokes move down", 112, () -> x.stroke(2, 0, 0));
        Checks.due("3: marks move down", 1013, () -> x.mark(2, 0));
        int[][] oaths = {{2, 1, 1, 1}, {0, 2, 0, 0}, {-1, -1, -1, -1}};
        for (int k = 0; k < 3; k++) {
            for (int w = 0; w < 4; w++) {
                int oath = k;
                int what = w;
                Checks.due("3: oath " + k + " " + w, oaths[k][w], () -> x.oath(oath, what));
            }
        }
        Checks.due("3: hand moves down", 1, () -> x.sheet(2, 4));
        Checks.due("3: the gone number is free", Checks.INDEX, () -> x.sheet(3, 0));
        Checks.due("3: laid behind the others", 3, () -> Checks.lay(x, "0:1p1", 3));
        Checks.due("3: its own hand", 3, () -> x.sheet(3, 4));
    }

    private static void pass() {
        SlantOaths x = new SlantOaths();
        Checks.due("4: pass without sheets", -1, () -> x.pass(99));
        Checks.due("4: undoable", 1, () -> x.count(17));
        Checks.lay(x, "0:1p1", 5);
        Checks.lay(x, "0:1p1", 90);
        Checks.lay(x, "0:1p1", 0);
        Checks.due("4: pass(3)", 93, () -> x.pass(3));
        Checks.due("4: age 0", 8, () -> x.sheet(0, 1));
        Checks.due("4: age 2", 3, () -> x.sheet(2, 1));
        Checks.due("4: pass(7)", 99, () -> x.pass(7));
        Checks.due("4: at most 99", 99, () -> x.sheet(1, 1));
        Checks.due("4: age 0 then", 15, () -> x.sheet(0, 1));
        Checks.due("4: pass(99)", 99, () -> x.pass(99));
        Checks.due("4: all are 99", 99, () -> x.sheet(2, 1));
        x.undo();
        Checks.due("4: undo", 10, () -> x.sheet(2, 1));
        for (int years : new int[] {0, -1, 100, Integer.MAX_VALUE, Integer.MIN_VALUE}) {
            Checks.refuses("4: pass(" + years + ")", x, Checks.ARGUMENT, () -> x.pass(years));
        }
    }

    private static void set() {
        int[] first = {4, 10, 3, 20, 8, 6, 40, 2, 4};
        int[] most = {50, 50, 50, 50, 50, 50, 99, 9, 6};
        SlantOaths x = new SlantOaths();
        for (int i = 0; i < 9; i++) {
            int setting = i;
            int top = most[i];
            Checks.due("5: set " + i + " to its most", first[i], () -> x.set(setting, top));
            Checks.due("5: set " + i + " to 0", top, () -> x.set(setting, 0));
            Checks.due("5: undo of set " + i, top, () -> x.undo() < 0 ? 0 : x.count(8 + setting));
            Checks.refuses("5: set " + i + " above", x, Checks.ARGUMENT, () -> x.set(setting, top + 1));
            Checks.refuses("5: set " + i + " below", x, Checks.ARGUMENT, () -> x.set(setting, -1));
        }
        Checks.refuses("5: setting 9", x, Checks.INDEX, () -> x.set(9, 0));
        Checks.refuses("5: setting -1 first", x, Checks.INDEX, () -> x.set(-1, 1000));
        SlantOaths sworn = Checks.alike(2);
        sworn.swear(0, 1, true);
        int saved = sworn.count(17);
        sworn.set(8, 6);
        sworn.set(6, 0);
        Checks.due("5: oaths stay", 1, () -> sworn.count(1));
        Checks.due("5: hands stay", 1, () -> sworn.count(3));
        Checks.due("5: the same value is saved too", saved + 3, () -> sworn.set(6, 0) + sworn.count(17));
    }
}
