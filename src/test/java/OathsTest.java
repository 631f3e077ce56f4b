/** Promises 6, 7 and 22: swear, recant, whyNot. */
public final class OathsTest {
    public static void main(String[] args) {
        swear();
        reasons();
        reasonFive();
        handsThatSplit();
        recant();
        wrongSheets();
        Checks.end("OathsTest");
    }

    private static void swear() {
        SlantOaths x = Checks.alike(5);
        Checks.due("6: 0 and 1", 4, () -> x.swear(0, 1, true));
        Checks.due("6: 3 and 2", 3, () -> x.swear(3, 2, true));
        Checks.due("6: of two hands", 3, () -> x.swear(4, 0, false));
        Checks.due("6: joined through others", 2, () -> x.swear(1, 2, true));
        Checks.due("6: of one hand by others, too", 2, () -> x.swear(0, 3, true));
        Checks.due("6: oath 1 begins with 3", 3, () -> x.oath(1, 0));
        Checks.due("6: oath 1 ends with 2", 2, () -> x.oath(1, 1));
        Checks.due("6: sworn so far", 5, () -> x.count(6));
        Checks.due("6: undoable", 6, () -> x.count(17));
        x.undo();
        Checks.due("6: undo of sworn", 4, () -> x.count(6));
        Checks.due("6: undo of the oath", -1, () -> x.compare(0, 3, 4));
    }

    private static void refused(SlantOaths x, int a, int b, boolean isLike, int reason) {
        String pair = a + " and " + b + (isLike ? " alike" : " unlike");
        Checks.due("22: " + pair, reason, () -> x.whyNot(a, b, isLike));
        Checks.due("22: nothing is changed, " + pair, x.digest(), () -> x.whyNot(a, b, isLike) < 0 ? 0 : x.digest());
        if (reason != 0) {
            Checks.refuses("6: " + pair, x, Checks.STATE, () -> x.swear(a, b, isLike));
        }
    }

    private static void reasons() {
        SlantOaths x = Checks.alike(3);
        Checks.lay(x, "10:20op5~5,12:24p6", 1);
        Checks.lay(x, "-40:60p1", 1);
        refused(x, 0, 0, true, 1);
        refused(x, 0, 0, false, 1);
        refused(x, 3, 3, true, 1);
        refused(x, 0, 3, true, 3);
        refused(x, 3, 0, true, 3);
        refused(x, 3, 4, true, 3);
        refused(x, 0, 3, false, 0);
        refused(x, 0, 4, true, 4);
        refused(x, 4, 0, false, 0);
        refused(x, 0, 1, true, 0);
        x.swear(0, 1, true);
        refused(x, 1, 0, true, 2);
        refused(x, 0, 1, false, 2);
        x.swear(0, 3, false);
        refused(x, 3, 0, true, 2);
        refused(x, 3, 0, false, 2);
        x.swear(1, 2, true);
        refused(x, 0, 2, false, 6);
        refused(x, 2, 0, true, 0);
        x.set(7, 3);
        refused(x, 1, 3, true, 5);
        x.set(8, 0);
        refused(x, 0, 4, true, 0);
        SlantOaths edge = new SlantOaths();
        Checks.lay(edge, "0:9p5~2,0:9p5~2", 0);
        Checks.lay(edge, "0:9p5~4,0:9p5~1", 0);
        refused(edge, 0, 0, true, 1);
        Checks.due("22: tremors of just the limit", 0, () -> edge.sheet(0, 3));
        refused(edge, 0, 1, true, 3);
        edge.set(8, 6);
        edge.set(7, 9);
        refused(edge, 0, 1, true, 0);
        edge.set(6, 0);
        refused(edge, 0, 1, true, 4);
        edge.set(8, 4);
        refused(edge, 0, 1, true, 0);
    }

    private static void reasonFive() {
        SlantOaths x = Checks.alike(6);
        x.swear(0, 1, true);
        x.swear(2, 3, true);
        x.swear(1, 3, false);
        refused(x, 0, 2, true, 5);
        refused(x, 3, 0, true, 5);
        refused(x, 1, 3, true, 2);
        refused(x, 0, 4, true, 0);
        refused(x, 0, 2, false, 0);
        x.swear(4, 0, true);
        refused(x, 4, 2, true, 5);
        refused(x, 4, 5, true, 0);
        x.recant(3, 1);
        refused(x, 4, 2, true, 0);
    }

    private static void handsThatSplit() {
        SlantOaths x = Checks.alike(4);
        x.swear(3, 2, true);
        x.swear(2, 1, true);
        x.swear(1, 0, true);
        Checks.due("6: one hand", 0, () -> x.sheet(3, 4));
        x.recant(1, 2);
        Checks.due("7: two hands", 2, () -> x.count(3));
        Checks.due("7: the lowest sheet of the rest", 2, () -> x.sheet(3, 4));
        x.undo();
        x.drop(2);
        Checks.due("3: the sheet between goes", 2, () -> x.count(3));
        Checks.due("3: alone then", 2, () -> x.sheet(2, 4));
    }

    private static void recant() {
        SlantOaths x = Checks.alike(3);
        x.swear(0, 1, true);
        x.swear(2, 1, false);
        Checks.due("7: none of these", 0, () -> x.recant(0, 2));
        Checks.due("7: undoable without one", 6, () -> x.count(17));
        Checks.due("7: none of one", 0, () -> x.recant(1, 1));
        Checks.due("7: from the other side", 1, () -> x.recant(1, 0));
        Checks.due("7: it is gone", 1, () -> x.count(1));
        Checks.due("7: of two hands", 0, () -> x.oath(0, 2));
        Checks.due("7: the other one moves up", 2, () -> x.oath(0, 0));
        Checks.due("7: sworn stays", 2, () -> x.count(6));
        Checks.due("7: only once", 0, () -> x.recant(1, 0));
        Checks.due("7: the one of two hands", 1, () -> x.recant(1, 2));
        Checks.due("7: none left", 0, () -> x.count(1));
        x.undo();
        Checks.due("7: undo", 0, () -> x.compare(1, 2, 4));
        Checks.due("7: sworn anew", 2, () -> x.swear(0, 1, true));
        Checks.due("7: sworn three times", 3, () -> x.count(6));
    }

    private static void wrongSheets() {
        SlantOaths x = Checks.alike(2);
        for (int bad : new int[] {-1, 2, 8, Integer.MAX_VALUE, Integer.MIN_VALUE}) {
            Checks.refuses("6: swear " + bad, x, Checks.INDEX, () -> x.swear(bad, 0, true));
            Checks.refuses("6: swear of 0 and " + bad, x, Checks.INDEX, () -> x.swear(0, bad, false));
            Checks.refuses("6: index before state " + bad, x, Checks.INDEX, () -> x.swear(bad, bad, true));
            Checks.refuses("7: recant " + bad, x, Checks.INDEX, () -> x.recant(bad, 0));
            Checks.refuses("7: recant of 0 and " + bad, x, Checks.INDEX, () -> x.recant(0, bad));
            Checks.refuses("22: whyNot " + bad, x, Checks.INDEX, () -> x.whyNot(bad, 0, true));
            Checks.refuses("22: whyNot of 0 and " + bad, x, Checks.INDEX, () -> x.whyNot(0, bad, false));
        }
    }
}
