/** Promises 13 to 15: undo, keep, restore. */
public final class UndoTest {
    public static void main(String[] args) {
        undo();
        sixStates();
        everyUndoableCall();
        snapshot();
        snapshotAndStates();
        Checks.end("UndoTest");
    }

    private static void undo() {
        SlantOaths x = new SlantOaths();
        Checks.refuses("13: nothing to undo", x, Checks.STATE, x::undo);
        long first = x.digest();
        x.set(0, 7);
        long second = x.digest();
        x.set(0, 9);
        Checks.due("13: one left", 1, x::undo);
        Checks.due("13: as before", second, x::digest);
        Checks.due("13: none left", 0, x::undo);
        Checks.due("13: as at first", first, x::digest);
        Checks.refuses("13: no more", x, Checks.STATE, x::undo);
        x.set(1, 1);
        Checks.write(x, "abc");
        x.undo();
        Checks.due("13: the buffer is no part of it", 3, x::clearBuffer);
    }

    private static void sixStates() {
        SlantOaths x = new SlantOaths();
        for (int i = 1; i <= 9; i++) {
            x.set(0, 10 + i);
            int saved = Math.min(6, i);
            Checks.due("13: saved " + i, saved, () -> x.count(17));
        }
        for (int i = 5; i >= 0; i--) {
            int left = i;
            Checks.due("13: left " + i, left, x::undo);
            Checks.due("13: setting " + i, 13 + i, () -> x.count(8));
        }
        Checks.refuses("13: the oldest ones are dropped", x, Checks.STATE, x::undo);
        x.set(0, 1);
        x.set(0, 2);
        Checks.due("13: again", 1, x::undo);
        Checks.due("13: again 1", 1, () -> x.count(8));
        Checks.due("13: again 0", 0, x::undo);
        Checks.due("13: again 13", 13, () -> x.count(8));
    }

    private static void undone(String what, SlantOaths x, Checks.Call call) {
        x.clearBuffer();
        for (int i = 0; i < 3; i++) {
            x.undo();
        }
        long before = x.digest();
        int saved = x.count(17);
        call.now();
        x.clearBuffer();
        Checks.due("13: undo of " + what, saved, x::undo);
        Checks.due("13: as before " + what, before, x::digest);
        for (int i = 0; i < 3; i++) {
            x.set(0, 4);
        }
    }

    private static void everyUndoableCall() {
        SlantOaths x = Checks.alike(4);
        x.swear(0, 1, true);
        x.swear(1, 2, true);
        x.swear(0, 3, false);
        x.keep();
        for (int i = 0; i < 3; i++) {
            x.set(0, 4);
        }
        undone("lay", x, () -> Checks.lay(x, "0:1p1", 3));
        undone("drop", x, () -> x.drop(1));
        undone("pass", x, () -> x.pass(50));
        undone("set", x, () -> x.set(7, 0));
        undone("set to the same", x, () -> x.set(7, 2));
        undone("swear", x, () -> x.swear(0, 2, true));
        undone("recant", x, () -> x.recant(1, 2));
        undone("recant of none", x, () -> x.recant(3, 2));
        undone("work", x, () -> Checks.work(x, "d0;y9;l0/0"));
        undone("work of nothing", x, () -> Checks.work(x, "l0/0"));
        undone("restore", x, x::restore);
    }

    private static void snapshot() {
        SlantOaths x = new SlantOaths();
        Checks.refuses("15: no snapshot", x, Checks.STATE, x::restore);
        Checks.due("14: keep of nothing", 0, x::keep);
        Checks.due("14: not undoable", 0, () -> x.count(17));
        Checks.lay(x, "1:2p3", 4);
        Checks.lay(x, "1:2p3", 5);
        Checks.due("15: none again", 0, x::restore);
        Checks.due("15: undoable", 3, () -> x.count(17));
        Checks.due("15: undo of restore", 2, () -> x.undo() < 0 ? 0 : x.count(0));
        Checks.due("14: keep of two", 2, x::keep);
        x.set(8, 0);
        x.swear(0, 1, true);
        Checks.work(x, "l0/0");
        x.drop(0);
        Checks.write(x, "abc");
        Checks.due("15: two", 2, x::restore);
        Checks.due("15: the buffer stays", 3, x::clearBuffer);
        Checks.due("15: ages", 5, () -> x.sheet(1, 1));
        Checks.due("15: settings", 4, () -> x.count(16));
        Checks.due("15: sworn", 0, () -> x.count(6));
        Checks.due("15: the stop", -1, () -> x.stopped(1));
        x.pass(9);
        Checks.due("15: the snapshot stays", 2, x::restore);
        Checks.due("15: not older", 4, () -> x.sheet(0, 1));
        Checks.work(x, "y1;d7");
        x.keep();
        Checks.work(x, "y1");
        x.restore();
        Checks.due("15: the stop of the snapshot", 1, () -> x.stopped(0));
        Checks.due("15: its reason", 7, () -> x.stopped(1));
    }

    private static void snapshotAndStates() {
        SlantOaths x = Checks.alike(1);
        x.keep();
        x.pass(5);
        x.undo();
        x.undo();
        Checks.due("13: undo leaves the snapshot", 1, x::restore);
        Checks.due("13: its sheet", 1, () -> x.sheet(0, 1));
        Checks.due("15: restore leaves the saved states", 1, () -> x.count(17));
        x.drop(0);
        x.keep();
        Checks.due("14: in place of the one before", 0, x::restore);
    }
}
