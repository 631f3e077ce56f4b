/** Each sentence of "Sheets" and "Settings", and of promises 1 to 5, that names a boundary case. */
public final class SheetBoundsTest {
    private static final int[] FAR = {-1, Integer.MIN_VALUE, Integer.MAX_VALUE};
    private static final String EIGHT = "1:1p1,2:1p1,3:1p1,4:1p1,5:1p1,6:1p1,7:1p1,8:1p1";

    public static void main(String[] args) {
        mostSheets();
        mostStrokes();
        leastAndMostOfAStroke();
        outsideOfAStroke();
        settings();
        nothing();
        newObject();
        lay();
        layOfNoSheet();
        layOnAFullTable();
        drop();
        dropOfNoSheet();
        oathsOfASheetThatGoes();
        numbersBehindASheetThatGoes();
        passAtMost99();
        passReturnsTheOldest();
        passOutOfRange();
        setKeepsOaths();
        setReturnsThePrevious();
        noSuchSetting();
        setOutOfRange();
        Checks.end("SheetBoundsTest");
    }

    private static void mostSheets() {
        Checks.of("There are at most 8 sheets, numbered from 0.");
        SlantOaths x = new SlantOaths();
        for (int i = 0; i < 8; i++) {
            int number = i;
            Checks.due("the number of sheet " + i, number, () -> Checks.lay(x, "0:9op5", number));
        }
        Checks.write(x, "0:9op5");
        Checks.refuses("a ninth sheet", x, Checks.STATE, () -> x.lay(0));
        Checks.due("the first one", 0, () -> x.sheet(0, 1));
        Checks.due("the last one", 7, () -> x.sheet(7, 1));
        Checks.due("none behind it", Checks.INDEX, () -> x.sheet(8, 1));
        Checks.due("none before the first", Checks.INDEX, () -> x.sheet(-1, 1));
        x.drop(3);
        Checks.due("room again", 7, () -> x.lay(9));
        Checks.refuses("full again, and no text", x, Checks.ARGUMENT, () -> x.lay(9));
        Checks.write(x, "0:9op5");
        Checks.refuses("a ninth sheet again", x, Checks.STATE, () -> x.lay(9));
    }

    private static void mostStrokes() {
        Checks.of("A sheet has 1 to 8 strokes, and an age in years, 0 to 99.");
        SlantOaths x = new SlantOaths();
        Checks.refuses("no stroke", x, Checks.ARGUMENT, () -> x.lay(0));
        Checks.due("one stroke", 1, () -> Checks.lay(x, "1:1p1", 0) + x.sheet(0, 0));
        Checks.due("eight strokes", 8, () -> Checks.lay(x, EIGHT, 99) < 0 ? 0 : x.sheet(1, 0));
        Checks.due("the eighth one", 108, () -> x.stroke(1, 7, 0));
        Checks.write(x, EIGHT + ",9:1p1");
        Checks.refuses("nine strokes", x, Checks.ARGUMENT, () -> x.lay(0));
        Checks.write(x, EIGHT + ",");
        Checks.refuses("the beginning of nine", x, Checks.ARGUMENT, () -> x.lay(0));
        Checks.due("the least age", 0, () -> x.sheet(0, 1));
        Checks.due("the greatest age", 99, () -> x.sheet(1, 1));
        Checks.write(x, "1:1p1");
        Checks.refuses("an age too small", x, Checks.ARGUMENT, () -> x.lay(-1));
        Checks.refuses("an age too large", x, Checks.ARGUMENT, () -> x.lay(100));
    }

    private static void stroke(String text, int... want) {
        SlantOaths x = new SlantOaths();
        Checks.due("lay of " + text, 0, () -> Checks.lay(x, text, 0));
        Checks.row("stroke " + text, want, what -> x.stroke(0, 0, what));
    }

    private static void leastAndMostOfAStroke() {
        Checks.of("A stroke has a slant, -45 to 45, a height, 1 to 60, a loop, or none, a pressure, 1 to 9,"
                + " and a tremor, 0 to 9.");
        stroke("-45:5p5", 55, 5, 0, 5, 0);
        stroke("-1:5p5", 99, 5, 0, 5, 0);
        stroke("0:5p5", 100, 5, 0, 5, 0);
        stroke("1:5p5", 101, 5, 0, 5, 0);
        stroke("45:5p5", 145, 5, 0, 5, 0);
        stroke("5:1p5", 105, 1, 0, 5, 0);
        stroke("5:60p5", 105, 60, 0, 5, 0);
        stroke("5:5op5", 105, 5, 1, 5, 0);
        stroke("5:5p1", 105, 5, 0, 1, 0);
        stroke("5:5p9", 105, 5, 0, 9, 0);
        stroke("5:5p5~1", 105, 5, 0, 5, 1);
        stroke("5:5p5~9", 105, 5, 0, 5, 9);
        stroke("-45:60op9~9", 55, 60, 1, 9, 9);
    }

    private static void outsideOfAStroke() {
        Checks.of("a slant, -45 to 45, a height, 1 to 60, a loop, or none, a pressure, 1 to 9, and a tremor,"
                + " 0 to 9.");
        SlantOaths x = new SlantOaths();
        for (String text : new String[] {"-46:5p5", "46:5p5", "-50:5p5", "50:5p5", "99:5p5", "5:0p5", "5:61p5",
            "5:70p5", "5:99p5", "5:5p0", "5:5p10", "5:5p5~0", "5:5p5~10", "5:5oop5", "-0:5p5"}) {
            Checks.write(x, text);
            Checks.refuses("lay of " + text, x, Checks.ARGUMENT, () -> x.lay(0));
        }
    }

    private static void settings() {
        Checks.of("0 to 5: 0 to 50, at first 4, 10, 3, 20, 8 and 6; 6: 0 to 99, at first 40; 7: 0 to 9,"
                + " at first 2; 8: 0 to 6, at first 4.");
        int[] first = {4, 10, 3, 20, 8, 6, 40, 2, 4};
        int[] most = {50, 50, 50, 50, 50, 50, 99, 9, 6};
        SlantOaths x = new SlantOaths();
        for (int i = 0; i < 9; i++) {
            int setting = i;
            int top = most[i];
            Checks.due("setting " + i + " at first", first[i], () -> x.count(8 + setting));
            Checks.due("setting " + i + ", its least", first[i], () -> x.set(setting, 0));
            Checks.due("setting " + i + " is it", 0, () -> x.count(8 + setting));
            Checks.due("setting " + i + ", its most", 0, () -> x.set(setting, top));
            Checks.due("setting " + i + " is it", top, () -> x.count(8 + setting));
        }
        Checks.row("all of them then", most, i -> x.count(8 + i));
    }

    private static void nothing() {
        Checks.of("NONE = -1: There is nothing to return.");
        Checks.due("the constant", -1, () -> SlantOaths.NONE);
        SlantOaths x = new SlantOaths();
        Checks.due("pass", -1, () -> x.pass(1));
        Checks.due("oath", -1, () -> x.oath(0, 0));
        Checks.due("stopped", -1, () -> x.stopped(0));
        Checks.lay(x, "0:1p1", 50);
        Checks.due("stroke", -1, () -> x.stroke(0, 1, 0));
        Checks.due("compare", -1, () -> x.compare(0, 0, 4));
        Checks.due("nearest", -1, () -> x.nearest(0));
        Checks.due("toleranceFor", -1, () -> x.toleranceFor(0, 0, 2));
    }

    private static void newObject() {
        Checks.of("1: Creates a table without sheets, oaths and a snapshot, with an empty buffer.");
        SlantOaths x = new SlantOaths();
        int[] counts = {0, 0, 0, 0, 0, 0, 0, 0, 4, 10, 3, 20, 8, 6, 40, 2, 4, 0};
        Checks.row("count", counts, x::count);
        Checks.due("no sheet", Checks.INDEX, () -> x.sheet(0, 0));
        Checks.due("no oath", -1, () -> x.oath(0, 2));
        Checks.due("no snapshot", Checks.STATE, x::restore);
        Checks.due("no saved state", Checks.STATE, x::undo);
        Checks.due("no stop", -2, () -> x.stopped(0) + x.stopped(1));
        Checks.due("no error in an empty buffer", 0, () -> x.firstError(true) + x.firstError(false));
        Checks.due("nothing in the buffer", 0, x::clearBuffer);
        Checks.table(8).keep();
        SlantOaths other = new SlantOaths();
        Checks.due("an object has nothing of another one", Checks.STATE, other::restore);
        Checks.due("no sheet of another one", 0, () -> other.count(0));
    }

    private static void lay() {
        Checks.of("2: Lays the sheet that the buffer is as a text onto the table, and clears the buffer. Undoable.");
        SlantOaths x = new SlantOaths();
        Checks.write(x, "9:9p9");
        Checks.due("the first number", 0, () -> x.lay(0));
        Checks.due("the buffer is empty", 0, x::clearBuffer);
        Checks.refuses("so it can't be laid twice", x, Checks.ARGUMENT, () -> x.lay(0));
        Checks.due("one saved state", 1, () -> x.count(17));
        Checks.due("undone", 0, x::undo);
        Checks.due("no sheet then", 0, () -> x.count(0));
        Checks.refuses("and no buffer", x, Checks.ARGUMENT, () -> x.lay(0));
        Checks.due("a long sheet", 0,
            () -> Checks.lay(x, "-45:60op9~9,-45:60op9~9,-45:60op9~9,-45:60op9~9,-44:60op9~9", 0));
        Checks.due("its last slant", 56, () -> x.stroke(0, 4, 0));
        Checks.due("60 characters are a sheet", 1,
            () -> Checks.lay(x, "-45:60op9~9,-45:60op9~9,-45:60op9~9,-4:60op9~9,-4:9p9,-4:9p9", 0));
        Checks.due("its six strokes", 6, () -> x.sheet(1, 0));
    }

    private static void layOfNoSheet() {
        Checks.of("2: Throws `IllegalArgumentException` if the buffer is not a complete sheet as a text (the buffer"
                + " stays), or age is out of range");
        String text = "-45:60op9~9,1:10p1";
        for (int end = 0; end < text.length(); end++) {
            boolean isWhole = end == 9 || end == 11;
            String start = text.substring(0, end);
            SlantOaths x = new SlantOaths();
            Checks.write(x, start);
            if (!isWhole) {
                Checks.refuses("lay of " + start, x, Checks.ARGUMENT, () -> x.lay(0));
            }
            for (int age : new int[] {-1, 100, FAR[1], FAR[2]}) {
                Checks.refuses("age " + age + " of " + start, x, Checks.ARGUMENT, () -> x.lay(age));
            }
            for (char c : text.substring(end).toCharArray()) {
                x.append(c);
            }
            Checks.due("the buffer stayed, so the rest makes it whole: " + start, 0, () -> x.lay(99));
            Checks.due("both strokes are there: " + start, 2, () -> x.sheet(0, 0));
            Checks.due("only the last call saved a state: " + start, 1, () -> x.count(17));
        }
        SlantOaths x = new SlantOaths();
        Checks.write(x, "y1;d0");
        Checks.refuses("works are no sheet", x, Checks.ARGUMENT, () -> x.lay(0));
        Checks.due("the buffer stays", 5, () -> x.firstError(true));
    }

    private static void layOnAFullTable() {
        Checks.of("2: Throws `IllegalStateException` if there are 8 sheets (the buffer stays)");
        SlantOaths x = Checks.table(7);
        Checks.due("the eighth one is laid", 7, () -> Checks.lay(x, "1:1p1", 0));
        Checks.write(x, "2:2p2");
        Checks.refuses("the ninth one", x, Checks.STATE, () -> x.lay(0));
        Checks.refuses("the ninth one again", x, Checks.STATE, () -> x.lay(99));
        Checks.due("eight sheets", 8, () -> x.count(0));
        x.drop(0);
        Checks.due("the buffer stayed, so it is laid now", 7, () -> x.lay(0));
        Checks.due("its slant", 102, () -> x.stroke(7, 0, 0));
    }

    private static SlantOaths allSworn() {
        SlantOaths x = Checks.table(8);
        for (int i = 0; i < 8; i++) {
            for (int j = 0; j < i; j++) {
                x.swear(i, j, true);
            }
        }
        return x;
    }

    private static void drop() {
        Checks.of("3: Returns how many oaths go with it.");
        SlantOaths x = allSworn();
        for (int left = 7; left >= 0; left--) {
            int oaths = left;
            Checks.due("of " + (left + 1) + " sheets", oaths, () -> x.drop(oaths / 2));
            Checks.due("sheets are left", oaths, () -> x.count(0));
            Checks.due("oaths are left", oaths * (oaths - 1) / 2, () -> x.count(1));
        }
        Checks.due("undone", 5, x::undo);
        Checks.due("one sheet then", 1, () -> x.count(0));
        SlantOaths mixed = Checks.table(4);
        mixed.swear(0, 1, true);
        mixed.swear(2, 0, false);
        mixed.swear(2, 3, true);
        Checks.due("those of two hands count, too", 2, () -> mixed.drop(0));
        Checks.due("one is left", 1, () -> mixed.count(1));
    }

    private static void dropOfNoSheet() {
        Checks.noSheet("3: drop", (x, sheet) -> x.drop(sheet));
        SlantOaths full = Checks.table(8);
        Checks.due("the last one", 0, () -> full.drop(7));
        Checks.refuses("the last one again", full, Checks.INDEX, () -> full.drop(7));
    }

    /** Sheets of ages and slants 0, 1, 2 and so on, with oaths of neighbours, by turns of one hand and of two. */
    private static SlantOaths row() {
        SlantOaths x = new SlantOaths();
        for (int i = 0; i < 6; i++) {
            Checks.lay(x, i + ":9op5", i);
        }
        for (int i = 0; i < 5; i++) {
            x.swear(i + 1, i, i % 2 == 0);
        }
        return x;
    }

    private static void oathsOf(SlantOaths x, String what, int[]... oaths) {
        Checks.due(what + ", oaths", oaths.length, () -> x.count(1));
        for (int k = 0; k < oaths.length; k++) {
            int oath = k;
            Checks.row(what + ", oath " + k, oaths[k], i -> x.oath(oath, i));
        }
        Checks.due(what + ", none behind", -1, () -> x.oath(oaths.length, 0));
    }

    private static void oathsOfASheetThatGoes() {
        Checks.of("When a sheet goes, its oaths go, too");
        SlantOaths first = row();
        Checks.due("of the first one", 1, () -> first.drop(0));
        oathsOf(first, "the first one", new int[] {1, 0, 0}, new int[] {2, 1, 1}, new int[] {3, 2, 0},
            new int[] {4, 3, 1});
        SlantOaths middle = row();
        Checks.due("of a middle one", 2, () -> middle.drop(2));
        oathsOf(middle, "a middle one", new int[] {1, 0, 1}, new int[] {3, 2, 0}, new int[] {4, 3, 1});
        SlantOaths last = row();
        Checks.due("of the last one", 1, () -> last.drop(5));
        oathsOf(last, "the last one", new int[] {1, 0, 1}, new int[] {2, 1, 0}, new int[] {3, 2, 1},
            new int[] {4, 3, 0});
        SlantOaths x = Checks.table(3);
        x.swear(0, 1, true);
        x.swear(1, 2, true);
        Checks.due("of one hand through another", 0, () -> x.sheet(2, 4));
        x.drop(1);
        Checks.due("no longer so", 1, () -> x.sheet(1, 4));
        Checks.due("neither found by joining", 0, () -> x.compare(0, 1, 3));
        Checks.due("nor by going", 0, () -> x.compare(0, 1, 2));
    }

    private static void numbersBehindASheetThatGoes() {
        Checks.of("those behind it have numbers that are less by 1.");
        for (int gone = 0; gone < 6; gone++) {
            SlantOaths x = row();
            x.drop(gone);
            for (int i = 0; i < 5; i++) {
                int sheet = i;
                int was = i < gone ? i : i + 1;
                Checks.due(gone + " goes, age of " + i, was, () -> x.sheet(sheet, 1));
                Checks.due(gone + " goes, stroke of " + i, 100 + was, () -> x.stroke(sheet, 0, 0));
                Checks.due(gone + " goes, mark of " + i, 1000 + was, () -> x.mark(sheet, 0));
            }
            Checks.due(gone + " goes, no sheet 5", Checks.INDEX, () -> x.sheet(5, 1));
        }
        SlantOaths full = Checks.table(7);
        full.pass(9);
        Checks.lay(full, "7:9op5", 3);
        full.drop(0);
        Checks.due("of a full table", 3, () -> full.sheet(6, 1));
        Checks.due("of a full table, its stroke", 107, () -> full.stroke(6, 0, 0));
        Checks.due("and the one before it", 9, () -> full.sheet(5, 1));
        Checks.due("and its stroke", 100, () -> full.stroke(5, 0, 0));
        Checks.due("a new one has the number that is free", 7, () -> Checks.lay(full, "8:9op5", 4));
        Checks.due("and leaves the one before it", 107, () -> full.stroke(6, 0, 0));
    }

    private static void passAtMost99() {
        Checks.of("4: Lets all sheets get older, at most 99.");
        int[] ages = {0, 1, 50, 97, 98, 99};
        for (int years : new int[] {1, 2, 49, 98, 99}) {
            SlantOaths x = new SlantOaths();
            for (int age : ages) {
                Checks.lay(x, "0:1p1", age);
            }
            x.pass(years);
            for (int i = 0; i < ages.length; i++) {
                int sheet = i;
                Checks.due(ages[i] + " and " + years, Math.min(99, ages[i] + years), () -> x.sheet(sheet, 1));
            }
            x.pass(99);
            Checks.row("all of them", new int[] {99, 99, 99, 99, 99, 99}, i -> x.sheet(i, 1));
            Checks.due("saved also if no sheet gets older", 6, () -> x.count(17));
            x.pass(99);
            x.undo();
            Checks.due("undone, still 99", 99, () -> x.sheet(0, 1));
            x.undo();
            Checks.due("undone twice", Math.min(99, years), () -> x.sheet(0, 1));
        }
    }

    private static void passReturnsTheOldest() {
        Checks.of("4: Returns the age of the oldest one then, NONE without sheets.");
        SlantOaths x = new SlantOaths();
        Checks.due("without sheets", -1, () -> x.pass(1));
        Checks.due("without sheets", -1, () -> x.pass(99));
        Checks.lay(x, "0:1p1", 0);
        Checks.due("the only one", 1, () -> x.pass(1));
        Checks.lay(x, "0:1p1", 5);
        Checks.due("the last one is the oldest", 6, () -> x.pass(1));
        Checks.lay(x, "0:1p1", 3);
        Checks.due("a middle one is", 7, () -> x.pass(1));
        x.drop(1);
        Checks.due("the last of two is", 5, () -> x.pass(1));
        Checks.due("99 is reached", 99, () -> x.pass(94));
        Checks.due("and not passed", 99, () -> x.pass(1));
        x.drop(1);
        x.drop(0);
        Checks.due("without sheets again", -1, () -> x.pass(1));
    }

    private static void passOutOfRange() {
        Checks.of("4: Throws `IllegalArgumentException` if years is out of range");
        for (int sheets : new int[] {0, 1}) {
            SlantOaths x = Checks.table(sheets);
            for (int years : new int[] {0, -1, 100, 101, -99, FAR[1], FAR[2]}) {
                Checks.refuses(sheets + " sheets, pass " + years, x, Checks.ARGUMENT, () -> x.pass(years));
            }
        }
    }

    private static void setKeepsOaths() {
        Checks.of("5: Changes a setting; oaths stay. Undoable.");
        SlantOaths x = Checks.table(3);
        Checks.lay(x, "20:9op5~2", 0);
        x.swear(0, 1, true);
        x.swear(0, 3, true);
        x.swear(2, 3, false);
        x.set(0, 0);
        x.set(6, 0);
        x.set(7, 0);
        x.set(8, 6);
        Checks.due("it could not be sworn now", 4, () -> x.recant(0, 1) < 0 ? 0 : x.whyNot(0, 1, true));
        x.undo();
        oathsOf(x, "all stay", new int[] {0, 1, 1, 1}, new int[] {0, 3, 1, 1}, new int[] {2, 3, 0, 0});
        Checks.due("the hands, too", 2, () -> x.count(3));
        Checks.due("the most of a hand, too", 3, () -> x.count(4));
    }

    private static void setReturnsThePrevious() {
        Checks.of("5: Returns the previous value.");
        SlantOaths x = new SlantOaths();
        Checks.due("at first", 40, () -> x.set(6, 99));
        Checks.due("the most", 99, () -> x.set(6, 0));
        Checks.due("the least", 0, () -> x.set(6, 0));
        Checks.due("the same", 0, () -> x.set(6, 7));
        x.undo();
        x.undo();
        x.undo();
        Checks.due("behind undo", 99, () -> x.set(6, 1));
        Checks.due("another one is another one", 4, () -> x.set(8, 1));
    }

    private static void noSuchSetting() {
        Checks.of("5: Throws `IndexOutOfBoundsException` if there is no such setting");
        SlantOaths x = new SlantOaths();
        for (int setting : new int[] {-1, 9, 10, 17, FAR[1], FAR[2]}) {
            for (int value : new int[] {0, -1, 1, 100}) {
                Checks.refuses("set " + setting + " " + value, x, Checks.INDEX, () -> x.set(setting, value));
            }
        }
        Checks.due("the last one", 4, () -> x.set(8, 6));
        Checks.due("the first one", 4, () -> x.set(0, 50));
    }

    private static void setOutOfRange() {
        Checks.of("5: Throws `IllegalArgumentException` if value is out of range");
        int[] most = {50, 50, 50, 50, 50, 50, 99, 9, 6};
        SlantOaths x = new SlantOaths();
        for (int i = 0; i < 9; i++) {
            int setting = i;
            for (int value : new int[] {-1, most[i] + 1, 100, FAR[1], FAR[2]}) {
                Checks.refuses("set " + i + " " + value, x, Checks.ARGUMENT, () -> x.set(setting, value));
            }
        }
    }
}
