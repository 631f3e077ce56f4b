import java.util.List;
import java.util.function.Supplier;

/** Each sentence of "Undo, the snapshot" and "Exceptions", and of promises 13 to 15, that names a boundary case. */
public final class UndoBoundsTest {
    private interface Change {
        Object of(SlantOaths x);
    }

    public static void main(String[] args) {
        undoableCallsSave();
        alsoIfNothingIsChanged();
        refusedCallsSaveNothing();
        otherCallsSaveNothing();
        allIsSaved();
        butNotTheRest();
        atMostSix();
        oldestFirst();
        undoNone();
        undoReturnsWhatIsLeft();
        keepReturnsSheets();
        keepInPlaceOfTheOther();
        restoreReturnsSheets();
        restoreStays();
        restoreIsUndoable();
        noSnapshot();
        anExceptionChangesNothing();
        theFirstException();
        looksChangeNothing();
        Checks.end("UndoBoundsTest");
    }

    /** Five sheets, two oaths, a stop, six saved states, a snapshot and a text in the buffer. */
    private static SlantOaths rich() {
        SlantOaths x = Checks.table(4);
        Checks.lay(x, "0:9op5~9", 7);
        Checks.lay(x, "20:60p9", 30);
        x.swear(0, 1, true);
        x.swear(1, 2, false);
        x.keep();
        x.drop(3);
        Checks.work(x, "y3;l0/0");
        x.set(8, 3);
        Checks.write(x, "d0;y");
        return x;
    }

    private static SlantOaths full() {
        SlantOaths x = Checks.table(8);
        x.keep();
        x.swear(0, 7, true);
        Checks.write(x, "0:9op5");
        return x;
    }

    private static SlantOaths fullWithoutText() {
        SlantOaths x = full();
        x.clearBuffer();
        return x;
    }

    private static SlantOaths empty() {
        return new SlantOaths();
    }

    private static SlantOaths fullBuffer() {
        SlantOaths x = Checks.table(1);
        Checks.write(x, "y1;".repeat(20));
        return x;
    }

    private static void saves(String what, int more, Change change) {
        SlantOaths x = Checks.table(3);
        x.swear(0, 1, true);
        x.keep();
        long before = x.digest();
        Checks.answer(() -> change.of(x));
        Checks.due(what + " saves", 4 + more, () -> x.count(17));
        x.clearBuffer();
        if (more == 1) {
            Checks.due(what + ", undone", 4, x::undo);
            Checks.due(what + ", as before", before, x::digest);
        }
    }

    private static void undoableCallsSave() {
        Checks.of("Each method that is marked \"undoable\" and does not throw an exception saves the state from"
                + " before it");
        saves("lay", 1, x -> Checks.lay(x, "1:1p1", 5));
        saves("drop", 1, x -> x.drop(1));
        saves("pass", 1, x -> x.pass(1));
        saves("set", 1, x -> x.set(6, 99));
        saves("swear", 1, x -> x.swear(1, 2, true));
        saves("swear of two hands", 1, x -> x.swear(2, 0, false));
        saves("recant", 1, x -> x.recant(1, 0));
        saves("work", 1, x -> Checks.work(x, "y1;d0;u0/1;l0/1;d0"));
        saves("restore", 1, SlantOaths::restore);
    }

    private static void alsoIfNothingIsChanged() {
        Checks.of("saves the state from before it (also if it changes nothing)");
        saves("set to the same", 1, x -> x.set(6, 40));
        saves("recant of none", 1, x -> x.recant(0, 2));
        saves("recant of one and itself", 1, x -> x.recant(2, 2));
        saves("work that stops at once", 1, x -> Checks.work(x, "l0/0"));
        saves("restore of the same", 1, SlantOaths::restore);
        SlantOaths x = new SlantOaths();
        x.pass(99);
        Checks.due("pass without sheets", 1, () -> x.count(17));
        Checks.work(x, "y99");
        Checks.due("work without sheets", 2, () -> x.count(17));
        Checks.lay(x, "1:1p1", 99);
        x.pass(99);
        Checks.due("pass when all are 99", 4, () -> x.count(17));
        x.drop(0);
        x.keep();
        x.restore();
        Checks.due("restore of nothing", 6, () -> x.count(17));
        Checks.due("undone", 5, x::undo);
        Checks.due("nothing still", 0, () -> x.count(0));
    }

    private static void refusedCallsSaveNothing() {
        Checks.of("and does not throw an exception saves the state");
        saves("lay", 0, x -> x.lay(0));
        saves("drop", 0, x -> x.drop(3));
        saves("pass", 0, x -> x.pass(0));
        saves("set", 0, x -> x.set(0, 51));
        saves("set of none", 0, x -> x.set(9, 0));
        saves("swear", 0, x -> x.swear(0, 1, true));
        saves("swear of none", 0, x -> x.swear(0, 3, true));
        saves("recant", 0, x -> x.recant(3, 0));
        saves("work", 0, SlantOaths::work);
        SlantOaths none = Checks.table(1);
        Checks.due("restore", Checks.STATE, none::restore);
        Checks.due("restore saves nothing", 1, () -> none.count(17));
        SlantOaths full = full();
        Checks.due("lay on a full table", Checks.STATE, () -> full.lay(0));
        Checks.due("it saves nothing", 5, full::undo);
        Checks.due("undo takes the oath back", 0, () -> full.count(1));
    }

    private static void otherCallsSaveNothing() {
        Checks.of("Each method that is marked \"undoable\"");
        saves("append", 0, x -> x.append('a'));
        saves("clearBuffer", 0, SlantOaths::clearBuffer);
        saves("firstError", 0, x -> x.firstError(true));
        saves("firstError of a sheet", 0, x -> x.firstError(false));
        saves("stopped", 0, x -> x.stopped(0));
        saves("keep", 0, SlantOaths::keep);
        saves("sheet", 0, x -> x.sheet(0, 4));
        saves("stroke", 0, x -> x.stroke(0, 0, 0));
        saves("mark", 0, x -> x.mark(0, 0));
        saves("compare", 0, x -> x.compare(0, 1, 0));
        saves("oath", 0, x -> x.oath(0, 3));
        saves("count", 0, x -> x.count(7));
        saves("whyNot", 0, x -> x.whyNot(0, 2, true));
        saves("nearest", 0, x -> x.nearest(0));
        saves("toleranceFor", 0, x -> x.toleranceFor(0, 1, 2));
        saves("ifPassed", 0, x -> x.ifPassed(0, 1, 99));
        saves("handShare", 0, SlantOaths::handShare);
        saves("digest", 0, SlantOaths::digest);
    }

    private static void allIsSaved() {
        Checks.of("all, also the latest stop");
        SlantOaths x = Checks.table(1);
        Checks.lay(x, "5:9op5~2", 30);
        Checks.work(x, "l0/1;y3;l0/0");
        x.set(8, 3);
        long before = x.digest();
        Checks.work(x, "d0;y9;l0/1;u1/1");
        Checks.work(x, "y1");
        x.undo();
        x.undo();
        Checks.due("the same in all that is told", before, x::digest);
        Checks.due("the stop's part", 2, () -> x.stopped(0));
        Checks.due("the stop's reason", 1, () -> x.stopped(1));
        Checks.due("ages", 33, () -> x.sheet(1, 1));
        Checks.due("strokes", 105, () -> x.stroke(1, 0, 0));
        Checks.due("settings", 3, () -> x.count(16));
        Checks.due("oaths", 1, () -> x.compare(0, 1, 4));
        Checks.due("hands", 1, () -> x.compare(0, 1, 3));
        Checks.due("sworn so far", 1, () -> x.count(6));
        SlantOaths y = new SlantOaths();
        Checks.work(y, "d0");
        Checks.work(y, "y1");
        y.undo();
        Checks.due("a stop comes back", 7, () -> y.stopped(1));
        y.undo();
        Checks.due("and goes", -1, () -> y.stopped(1));
    }

    private static void butNotTheRest() {
        Checks.of("but the buffer, the saved states and the snapshot.");
        SlantOaths x = Checks.table(2);
        x.keep();
        Checks.write(x, "abc");
        x.pass(1);
        Checks.write(x, "abcde");
        x.undo();
        Checks.due("undo leaves the buffer", 5, x::clearBuffer);
        Checks.write(x, "0:9op5");
        x.lay(0);
        x.undo();
        Checks.due("it brings no text back", 0, x::clearBuffer);
        x.keep();
        x.drop(0);
        x.keep();
        x.undo();
        Checks.due("undo leaves the snapshot", 1, x::restore);
        x.undo();
        Checks.due("two again", 2, () -> x.count(0));
        Checks.due("the snapshot is there still", 1, x::restore);
        SlantOaths y = Checks.table(1);
        y.keep();
        Checks.due("undo of all", 0, y::undo);
        Checks.due("the snapshot is there", 1, y::restore);
        Checks.write(y, "xyz");
        y.restore();
        Checks.due("restore leaves the buffer", 3, y::clearBuffer);
        Checks.due("restore leaves the saved states", 2, () -> y.count(17));
    }

    private static void atMostSix() {
        Checks.of("At most 6 states are saved");
        SlantOaths x = new SlantOaths();
        for (int i = 1; i <= 20; i++) {
            x.set(6, i);
            int saved = Math.min(6, i);
            Checks.due("behind " + i, saved, () -> x.count(17));
        }
        for (int i = 5; i >= 0; i--) {
            int left = i;
            Checks.due("left", left, x::undo);
            Checks.due("of 20", 14 + i, () -> x.count(14));
        }
        Checks.refuses("no seventh one", x, Checks.STATE, x::undo);
    }

    private static void oldestFirst() {
        Checks.of("the oldest one is dropped first.");
        SlantOaths x = new SlantOaths();
        for (int i = 1; i <= 6; i++) {
            x.set(6, i);
        }
        SlantOaths y = new SlantOaths();
        for (int i = 1; i <= 7; i++) {
            y.set(6, i);
        }
        for (int i = 0; i < 6; i++) {
            x.undo();
            y.undo();
        }
        Checks.due("six calls are all undone", 40, () -> x.count(14));
        Checks.due("of seven the first one is not", 1, () -> y.count(14));
        for (int i = 1; i <= 4; i++) {
            y.set(6, 10 + i);
        }
        y.undo();
        y.undo();
        for (int i = 1; i <= 5; i++) {
            y.set(6, 20 + i);
        }
        int[] want = {24, 23, 22, 21, 12, 11};
        for (int i = 0; i < 6; i++) {
            int left = 5 - i;
            Checks.due("by turns", left, y::undo);
            Checks.due("by turns, setting", want[i], () -> y.count(14));
        }
        Checks.due("no more", Checks.STATE, y::undo);
    }

    private static void undoNone() {
        Checks.of("13: Throws `IllegalStateException` if there is none");
        SlantOaths x = new SlantOaths();
        Checks.refuses("of a new object", x, Checks.STATE, x::undo);
        Checks.write(x, "0:9op5");
        x.keep();
        x.firstError(true);
        Checks.refuses("calls that save nothing", x, Checks.STATE, x::undo);
        x.lay(0);
        x.undo();
        Checks.refuses("all is undone", x, Checks.STATE, x::undo);
        Checks.due("the snapshot is there", 0, x::restore);
        Checks.due("restore is undone", 0, x::undo);
        Checks.refuses("all is undone again", x, Checks.STATE, x::undo);
    }

    private static void undoReturnsWhatIsLeft() {
        Checks.of("13: Restores the latest saved state, and drops it. Returns how many saved states are left.");
        SlantOaths x = Checks.table(6);
        for (int left = 5; left >= 0; left--) {
            int sheets = left;
            Checks.due("left", sheets, x::undo);
            Checks.due("sheets", sheets, () -> x.count(0));
            Checks.due("saved states", sheets, () -> x.count(17));
        }
        SlantOaths full = Checks.table(8);
        for (int left = 5; left >= 0; left--) {
            full.undo();
        }
        Checks.due("two are laid for good", 2, () -> full.count(0));
        Checks.due("undo can't be undone", Checks.STATE, full::undo);
    }

    private static void keepReturnsSheets() {
        Checks.of("14: Returns how many sheets there are.");
        for (int sheets : new int[] {0, 1, 8}) {
            SlantOaths x = Checks.table(sheets);
            Checks.due("keep of " + sheets, sheets, x::keep);
            Checks.due("keep again of " + sheets, sheets, x::keep);
            Checks.due("restore of " + sheets, sheets, x::restore);
        }
    }

    private static void keepInPlaceOfTheOther() {
        Checks.of("14: in place of the one before.");
        SlantOaths x = Checks.table(2);
        x.keep();
        x.drop(0);
        x.keep();
        x.drop(0);
        Checks.due("the later one", 1, x::restore);
        x.undo();
        x.keep();
        Checks.lay(x, "0:9op5", 0);
        Checks.due("an empty one", 0, x::restore);
        x.undo();
        Checks.due("it is still there", 0, x::restore);
    }

    private static void restoreReturnsSheets() {
        Checks.of("15: Returns how many sheets there are then.");
        for (int sheets : new int[] {0, 1, 8}) {
            SlantOaths x = Checks.table(sheets);
            x.keep();
            Checks.due("of the same " + sheets, sheets, x::restore);
            for (int i = 0; i < sheets; i++) {
                x.drop(0);
            }
            Checks.due("of none before, " + sheets, sheets, x::restore);
            Checks.due("they are there", sheets, () -> x.count(0));
        }
        SlantOaths x = new SlantOaths();
        x.keep();
        for (int i = 0; i < 8; i++) {
            Checks.lay(x, "0:9op5", 0);
        }
        Checks.due("of eight before", 0, x::restore);
        Checks.due("none is there", 0, () -> x.count(0));
    }

    private static void restoreStays() {
        Checks.of("15: Restores the state of the snapshot, which stays.");
        SlantOaths x = rich();
        x.clearBuffer();
        Checks.due("as it was kept", 6, x::restore);
        Checks.due("ages", 0, () -> x.sheet(0, 1));
        Checks.due("no stop", -1, () -> x.stopped(0));
        Checks.due("settings", 4, () -> x.count(16));
        Checks.due("oaths", 2, () -> x.count(1));
        long kept = x.digest();
        x.drop(0);
        x.pass(9);
        x.set(0, 0);
        Checks.due("again", 6, x::restore);
        Checks.due("not changed by what came between", kept, x::digest);
        Checks.due("at once again", 6, x::restore);
        Checks.due("the same", kept, x::digest);
        SlantOaths y = Checks.table(1);
        Checks.work(y, "d1");
        y.keep();
        Checks.work(y, "y1");
        y.restore();
        Checks.due("the stop of the snapshot", 7, () -> y.stopped(1));
        Checks.due("its part", 0, () -> y.stopped(0));
        Checks.due("sworn so far, too", 0, () -> y.count(6));
        Checks.lay(y, "0:9op5", 0);
        y.swear(0, 1, true);
        y.restore();
        Checks.due("none was sworn", 0, () -> y.count(6));
    }

    private static void restoreIsUndoable() {
        Checks.of("15: Undoable.");
        SlantOaths x = Checks.table(1);
        x.keep();
        x.pass(5);
        x.drop(0);
        Checks.due("one sheet", 1, x::restore);
        Checks.due("four states", 4, () -> x.count(17));
        Checks.due("undone", 3, x::undo);
        Checks.due("no sheet", 0, () -> x.count(0));
        Checks.due("undone", 2, x::undo);
        Checks.due("older", 5, () -> x.sheet(0, 1));
        SlantOaths full = full();
        Checks.due("with six saved ones", 8, full::restore);
        Checks.due("still six", 5, full::undo);
        Checks.due("the oath is there", 1, () -> full.count(1));
    }

    private static void noSnapshot() {
        Checks.of("15: Throws `IllegalStateException` if there is no snapshot");
        SlantOaths x = new SlantOaths();
        Checks.refuses("of a new object", x, Checks.STATE, x::restore);
        Checks.lay(x, "0:9op5", 0);
        Checks.refuses("with saved states", x, Checks.STATE, x::restore);
        x.undo();
        Checks.refuses("behind undo", x, Checks.STATE, x::restore);
        x.keep();
        Checks.due("a snapshot of nothing is one", 0, x::restore);
    }

    private static void nothing(String what, Supplier<SlantOaths> make, String want, Change call) {
        SlantOaths x = make.get();
        Checks.due(what, want, () -> call.of(x));
        Checks.same(what, x, make.get());
    }

    private static void anExceptionChangesNothing() {
        Checks.of("A call that throws an exception changes nothing.");
        nothing("lay", UndoBoundsTest::rich, Checks.ARGUMENT, x -> x.lay(0));
        nothing("lay of an age", UndoBoundsTest::full, Checks.ARGUMENT, x -> x.lay(-1));
        nothing("lay, full", UndoBoundsTest::full, Checks.STATE, x -> x.lay(99));
        nothing("drop", UndoBoundsTest::rich, Checks.INDEX, x -> x.drop(5));
        nothing("pass", UndoBoundsTest::rich, Checks.ARGUMENT, x -> x.pass(100));
        nothing("set", UndoBoundsTest::rich, Checks.INDEX, x -> x.set(9, 0));
        nothing("set of a value", UndoBoundsTest::rich, Checks.ARGUMENT, x -> x.set(8, 7));
        nothing("swear", UndoBoundsTest::rich, Checks.INDEX, x -> x.swear(0, 5, true));
        nothing("swear of the same", UndoBoundsTest::rich, Checks.STATE, x -> x.swear(0, 0, false));
        nothing("swear against an oath", UndoBoundsTest::rich, Checks.STATE, x -> x.swear(0, 2, true));
        nothing("recant", UndoBoundsTest::rich, Checks.INDEX, x -> x.recant(5, 0));
        nothing("append", UndoBoundsTest::rich, Checks.ARGUMENT, x -> x.append(32));
        nothing("append, full", UndoBoundsTest::fullBuffer, Checks.STATE, x -> x.append('a'));
        nothing("work", UndoBoundsTest::rich, Checks.ARGUMENT, SlantOaths::work);
        nothing("work, full", UndoBoundsTest::fullBuffer, Checks.ARGUMENT, SlantOaths::work);
        nothing("stopped", UndoBoundsTest::rich, Checks.ARGUMENT, x -> x.stopped(2));
        nothing("undo", UndoBoundsTest::empty, Checks.STATE, SlantOaths::undo);
        nothing("restore", UndoBoundsTest::fullBuffer, Checks.STATE, SlantOaths::restore);
        nothing("sheet", UndoBoundsTest::rich, Checks.INDEX, x -> x.sheet(5, 0));
        nothing("sheet, what", UndoBoundsTest::rich, Checks.ARGUMENT, x -> x.sheet(0, 7));
        nothing("stroke", UndoBoundsTest::rich, Checks.INDEX, x -> x.stroke(5, 0, 0));
        nothing("stroke, what", UndoBoundsTest::rich, Checks.ARGUMENT, x -> x.stroke(0, 8, 0));
        nothing("mark", UndoBoundsTest::rich, Checks.INDEX, x -> x.mark(5, 0));
        nothing("mark, what", UndoBoundsTest::rich, Checks.ARGUMENT, x -> x.mark(0, 6));
        nothing("compare", UndoBoundsTest::rich, Checks.INDEX, x -> x.compare(5, 0, 0));
        nothing("compare, what", UndoBoundsTest::rich, Checks.ARGUMENT, x -> x.compare(0, 0, 5));
        nothing("oath", UndoBoundsTest::rich, Checks.ARGUMENT, x -> x.oath(-1, 0));
        nothing("count", UndoBoundsTest::rich, Checks.ARGUMENT, x -> x.count(18));
        nothing("whyNot", UndoBoundsTest::rich, Checks.INDEX, x -> x.whyNot(0, 5, true));
        nothing("nearest", UndoBoundsTest::rich, Checks.INDEX, x -> x.nearest(5));
        nothing("toleranceFor", UndoBoundsTest::rich, Checks.INDEX, x -> x.toleranceFor(0, 5, 0));
        nothing("toleranceFor, mark", UndoBoundsTest::rich, Checks.ARGUMENT, x -> x.toleranceFor(0, 1, 6));
        nothing("ifPassed", UndoBoundsTest::rich, Checks.INDEX, x -> x.ifPassed(5, 0, 1));
        nothing("ifPassed, years", UndoBoundsTest::rich, Checks.ARGUMENT, x -> x.ifPassed(0, 1, 0));
    }

    private static void theFirstException() {
        Checks.of("If several exceptions apply, the one that is named first in the throws clause is thrown.");
        nothing("lay of an age, full", UndoBoundsTest::full, Checks.ARGUMENT, x -> x.lay(100));
        nothing("lay of no text, full", UndoBoundsTest::fullWithoutText, Checks.ARGUMENT, x -> x.lay(0));
        nothing("set", UndoBoundsTest::rich, Checks.INDEX, x -> x.set(9, 100));
        nothing("set below", UndoBoundsTest::rich, Checks.INDEX, x -> x.set(-1, -1));
        nothing("swear of the same that is not there", UndoBoundsTest::rich, Checks.INDEX, x -> x.swear(5, 5, true));
        nothing("append, full", UndoBoundsTest::fullBuffer, Checks.ARGUMENT, x -> x.append(127));
        nothing("append, full, below", UndoBoundsTest::fullBuffer, Checks.ARGUMENT, x -> x.append(32));
        nothing("sheet", UndoBoundsTest::empty, Checks.INDEX, x -> x.sheet(0, 7));
        nothing("sheet below", UndoBoundsTest::rich, Checks.INDEX, x -> x.sheet(-1, -1));
        nothing("stroke", UndoBoundsTest::empty, Checks.INDEX, x -> x.stroke(0, 8, 5));
        nothing("stroke below", UndoBoundsTest::rich, Checks.INDEX, x -> x.stroke(5, -1, -1));
        nothing("mark", UndoBoundsTest::empty, Checks.INDEX, x -> x.mark(0, 6));
        nothing("mark below", UndoBoundsTest::rich, Checks.INDEX, x -> x.mark(5, -1));
        nothing("compare", UndoBoundsTest::rich, Checks.INDEX, x -> x.compare(5, 0, 5));
        nothing("compare with another", UndoBoundsTest::rich, Checks.INDEX, x -> x.compare(0, 5, -1));
        nothing("toleranceFor", UndoBoundsTest::rich, Checks.INDEX, x -> x.toleranceFor(5, 0, 6));
        nothing("toleranceFor another", UndoBoundsTest::rich, Checks.INDEX, x -> x.toleranceFor(0, 5, -1));
        nothing("ifPassed", UndoBoundsTest::rich, Checks.INDEX, x -> x.ifPassed(5, 0, 0));
        nothing("ifPassed with another", UndoBoundsTest::rich, Checks.INDEX, x -> x.ifPassed(0, 5, 100));
    }

    private static void looksChangeNothing() {
        Checks.of("looks; nothing is changed.");
        for (Supplier<SlantOaths> make : looked()) {
            SlantOaths x = make.get();
            for (int i = 0; i < 6; i++) {
                int at = i;
                Checks.answer(() -> x.sheet(at, at));
                Checks.answer(() -> x.stroke(at, 0, at));
                Checks.answer(() -> x.mark(at, at));
                Checks.answer(() -> x.compare(at, 5 - at, at));
                Checks.answer(() -> x.oath(at, at % 4));
                Checks.answer(() -> x.count(at * 3));
                Checks.answer(() -> x.whyNot(at, 5 - at, true));
                Checks.answer(() -> x.whyNot(at, (at + 1) % 6, false));
                Checks.answer(() -> x.nearest(at));
                Checks.answer(() -> x.toleranceFor(at, 5 - at, at));
                Checks.answer(() -> x.ifPassed(at, 5 - at, 99));
                Checks.answer(() -> x.stopped(at));
            }
            Checks.answer(x::handShare);
            Checks.answer(x::digest);
            Checks.answer(() -> x.firstError(true));
            Checks.answer(() -> x.firstError(false));
            Checks.same("looks", x, make.get());
        }
    }

    private static List<Supplier<SlantOaths>> looked() {
        return List.of(UndoBoundsTest::rich, UndoBoundsTest::full, UndoBoundsTest::empty,
            UndoBoundsTest::fullBuffer);
    }
}
