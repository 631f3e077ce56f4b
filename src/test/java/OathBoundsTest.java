/** Each sentence of "Oaths", and of promises 6, 7, 19 to 22 and 26, that names a boundary case. */
public final class OathBoundsTest {
    public static void main(String[] args) {
        throughOthers();
        twoWaysAgree();
        theSame();
        anOathOfThese();
        oneTrembles();
        likenessBelow();
        someTwoSheets();
        byOthersToo();
        ofTwoHands();
        firstReason();
        firstReasonOfTwoHands();
        holdsTogether();
        swear();
        swearReturnsHands();
        cannotBeSworn();
        noSuchSheet();
        recant();
        recantNone();
        oathsInOrder();
        notSoManyOaths();
        noSuchOath();
        oathOfThem();
        handIsTheLowest();
        oathsOfASheet();
        countOfOaths();
        hands();
        mostOfAHand();
        swornSoFar();
        likePairs();
        handShare();
        handShareWithout();
        Checks.end("OathBoundsTest");
    }

    private static void refused(SlantOaths x, int a, int b, boolean isLike, int reason) {
        String pair = a + " and " + b + (isLike ? " of one hand" : " of two");
        Checks.due(pair, reason, () -> x.whyNot(a, b, isLike));
        if (reason != 0) {
            Checks.refuses("swear " + pair, x, Checks.STATE, () -> x.swear(a, b, isLike));
            return;
        }
        int sworn = x.count(6);
        Checks.due("swear " + pair, sworn + 1, () -> x.swear(a, b, isLike) < 1 ? 0 : x.count(6));
        x.undo();
    }

    private static SlantOaths chain(int sheets) {
        SlantOaths x = Checks.table(sheets);
        for (int i = 1; i < sheets; i++) {
            x.swear(i - 1, i, true);
        }
        return x;
    }

    private static SlantOaths everyPair(int sheets, boolean isLike) {
        SlantOaths x = Checks.table(sheets);
        for (int i = 0; i < sheets; i++) {
            for (int j = i + 1; j < sheets; j++) {
                x.swear(i, j, isLike);
            }
        }
        return x;
    }

    private static void throughOthers() {
        Checks.of("Sheets that are joined by oaths of one hand, one through another, are of one hand.");
        SlantOaths x = chain(8);
        Checks.due("the ends of a chain of eight", 1, () -> x.compare(0, 7, 2));
        Checks.due("the other way", 1, () -> x.compare(7, 0, 3));
        x.recant(3, 4);
        Checks.due("not when it is broken", 0, () -> x.compare(0, 7, 2));
        Checks.due("nor found by joining", 0, () -> x.compare(0, 7, 3));
        Checks.due("but up to there", 1, () -> x.compare(0, 3, 2));
        SlantOaths y = Checks.table(8);
        int[] mixed = {7, 3, 5, 1, 6, 0, 4, 2};
        for (int i = 7; i > 0; i--) {
            y.swear(mixed[i], mixed[i - 1], true);
        }
        Checks.due("a chain out of order", 1, () -> y.compare(7, 2, 2));
        Checks.due("a chain out of order, joined", 1, () -> y.compare(7, 2, 3));
        SlantOaths two = Checks.table(3);
        two.swear(0, 1, true);
        two.swear(1, 2, false);
        Checks.due("an oath of two hands joins nothing", 0, () -> two.compare(0, 2, 2) + two.compare(1, 2, 3));
    }

    private static void twoWaysAgree() {
        Checks.of("19: 2: 1 if they are of one hand, found by going from sheet to sheet, otherwise 0; 3: the same,"
                + " found by joining hands");
        int[][] oaths = {{6, 7}, {2, 3}, {7, 2}, {4, 5}, {3, 6}, {0, 1}};
        SlantOaths x = Checks.table(8);
        int[] hands = {0, 1, 2, 3, 4, 5, 6, 7};
        for (int[] oath : oaths) {
            x.swear(oath[0], oath[1], true);
            int old = hands[oath[1]];
            for (int i = 0; i < 8; i++) {
                hands[i] = hands[i] == old ? hands[oath[0]] : hands[i];
            }
        }
        for (int i = 0; i < 8; i++) {
            for (int j = 0; j < 8; j++) {
                int a = i;
                int b = j;
                int want = hands[i] == hands[j] ? 1 : 0;
                Checks.due("going from " + i + " to " + j, want, () -> x.compare(a, b, 2));
                Checks.due("joining " + i + " and " + j, want, () -> x.compare(a, b, 3));
            }
        }
    }

    private static void theSame() {
        Checks.of("1: they are the same");
        SlantOaths x = chain(3);
        for (int i = 0; i < 3; i++) {
            refused(x, i, i, true, 1);
            refused(x, i, i, false, 1);
        }
        SlantOaths one = Checks.table(1);
        refused(one, 0, 0, true, 1);
        refused(one, 0, 0, false, 1);
    }

    private static void anOathOfThese() {
        Checks.of("2: there is an oath of these two");
        SlantOaths x = Checks.table(4);
        x.swear(0, 1, true);
        x.swear(3, 2, false);
        for (boolean isLike : new boolean[] {true, false}) {
            refused(x, 0, 1, isLike, 2);
            refused(x, 1, 0, isLike, 2);
            refused(x, 3, 2, isLike, 2);
            refused(x, 2, 3, isLike, 2);
            refused(x, 0, 2, isLike, 0);
        }
        x.recant(1, 0);
        refused(x, 0, 1, true, 0);
        refused(x, 0, 1, false, 0);
    }

    private static void oneTrembles() {
        Checks.of("3: one of them trembles");
        SlantOaths x = Checks.table(1);
        Checks.lay(x, "0:9op5~2", 0);
        Checks.lay(x, "0:9op5~3", 0);
        Checks.lay(x, "0:9op5~4", 0);
        refused(x, 0, 1, true, 0);
        refused(x, 0, 2, true, 3);
        refused(x, 2, 0, true, 3);
        refused(x, 2, 3, true, 3);
        refused(x, 2, 0, false, 0);
        x.set(7, 3);
        refused(x, 0, 2, true, 0);
        refused(x, 0, 3, true, 3);
        x.set(7, 0);
        refused(x, 0, 1, true, 3);
        x.set(7, 9);
        refused(x, 2, 3, true, 0);
    }

    private static void likenessBelow() {
        Checks.of("4: their likeness is below setting 8");
        SlantOaths x = new SlantOaths();
        Checks.lay(x, "0:10p1,0:10p1", 0);
        Checks.lay(x, "1:10op2,3:10p4", 0);
        for (int m = 0; m < 6; m++) {
            x.set(m, 0);
        }
        for (int likeness = 0; likeness <= 6; likeness++) {
            int now = likeness;
            Checks.due("likeness " + likeness, now, () -> x.compare(0, 1, 0));
            x.set(8, likeness);
            refused(x, 0, 1, true, 0);
            x.set(8, Math.min(6, likeness + 1));
            refused(x, 1, 0, true, likeness < 6 ? 4 : 0);
            refused(x, 1, 0, false, 0);
            x.set(Math.min(5, likeness), 50);
        }
    }

    private static void someTwoSheets() {
        Checks.of("5: by this some two sheets would be of one hand, of which there is an oath of two hands.");
        SlantOaths x = Checks.table(8);
        for (int i : new int[] {1, 2, 3}) {
            x.swear(i - 1, i, true);
            x.swear(i + 3, i + 4, true);
        }
        refused(x, 3, 4, true, 0);
        x.swear(7, 0, false);
        for (int i = 0; i < 4; i++) {
            for (int j = 4; j < 8; j++) {
                refused(x, i, j, true, i == 0 && j == 7 ? 2 : 5);
                refused(x, j, i, true, i == 0 && j == 7 ? 2 : 5);
            }
        }
        refused(x, 0, 3, true, 0);
        x.recant(0, 7);
        refused(x, 3, 4, true, 0);
        SlantOaths y = Checks.table(4);
        y.swear(0, 1, false);
        refused(y, 2, 3, true, 0);
        refused(y, 0, 2, true, 0);
        y.swear(0, 2, true);
        refused(y, 2, 1, true, 5);
        refused(y, 1, 2, true, 5);
        refused(y, 1, 3, true, 0);
        y.drop(0);
        refused(y, 0, 1, true, 0);
    }

    private static void byOthersToo() {
        Checks.of("(Two that are of one hand by other oaths can be sworn so, too.)");
        SlantOaths x = chain(3);
        refused(x, 0, 2, true, 0);
        Checks.due("of one hand", 1, () -> x.swear(2, 0, true));
        Checks.due("it is an oath of its own", 3, () -> x.count(2));
        Checks.due("it holds nothing together", 0, () -> x.oath(2, 3));
        SlantOaths full = everyPair(8, true);
        Checks.due("every pair can be", 28, () -> full.count(2));
        Checks.due("one hand", 1, () -> full.count(3));
    }

    private static void ofTwoHands() {
        Checks.of("They cannot be sworn to be of two hands for the first of these: 1, 2, or 6: they are of one"
                + " hand by oaths.");
        SlantOaths x = chain(8);
        refused(x, 0, 7, false, 6);
        refused(x, 7, 0, false, 6);
        refused(x, 2, 4, false, 6);
        x.recant(6, 7);
        refused(x, 0, 7, false, 0);
        refused(x, 6, 7, false, 0);
        refused(x, 0, 6, false, 6);
        SlantOaths y = Checks.table(3);
        y.swear(0, 1, false);
        y.swear(1, 2, false);
        refused(y, 0, 2, false, 0);
        refused(y, 0, 2, true, 0);
        SlantOaths full = everyPair(8, false);
        Checks.due("every pair can be", 28, () -> full.count(1));
        Checks.due("none is of one hand", 8, () -> full.count(3));
    }

    private static void firstReason() {
        Checks.of("Two sheets cannot be sworn to be of one hand for the first of these reasons that applies");
        SlantOaths x = Checks.table(2);
        Checks.lay(x, "20:60p9~9", 50);
        refused(x, 2, 2, true, 1);
        x.set(8, 6);
        refused(x, 2, 2, true, 1);
        refused(x, 0, 2, true, 3);
        x.set(7, 9);
        refused(x, 0, 2, true, 4);
        x.set(8, 0);
        x.swear(0, 2, true);
        x.swear(0, 1, false);
        refused(x, 1, 2, true, 5);
        x.set(8, 6);
        refused(x, 1, 2, true, 4);
        x.set(7, 0);
        refused(x, 1, 2, true, 3);
        refused(x, 2, 0, true, 2);
        refused(x, 0, 1, true, 2);
        refused(x, 1, 1, true, 1);
        x.set(7, 2);
        refused(x, 2, 1, true, 3);
    }

    private static void firstReasonOfTwoHands() {
        Checks.of("for the first of these: 1, 2, or 6");
        SlantOaths x = chain(3);
        refused(x, 1, 1, false, 1);
        refused(x, 1, 0, false, 2);
        refused(x, 2, 0, false, 6);
        Checks.lay(x, "45:60p9~9", 99);
        x.set(8, 6);
        refused(x, 3, 3, false, 1);
        refused(x, 3, 0, false, 0);
        refused(x, 3, 0, true, 3);
        x.swear(3, 0, false);
        refused(x, 0, 3, false, 2);
        refused(x, 1, 3, false, 0);
    }

    private static void holds(SlantOaths x, int... want) {
        Checks.row("holds together", want, k -> x.oath(k, 3));
    }

    private static void holdsTogether() {
        Checks.of("An oath holds together what it is of, if it is of one hand, and the two sheets would not be"
                + " of one hand without it.");
        SlantOaths one = Checks.table(3);
        one.swear(0, 1, true);
        holds(one, 1);
        one.swear(1, 2, false);
        holds(one, 1, 0);
        SlantOaths x = chain(8);
        holds(x, 1, 1, 1, 1, 1, 1, 1);
        x.swear(7, 0, true);
        holds(x, 0, 0, 0, 0, 0, 0, 0, 0);
        x.recant(4, 3);
        holds(x, 1, 1, 1, 1, 1, 1, 1);
        x.swear(4, 3, true);
        holds(x, 0, 0, 0, 0, 0, 0, 0, 0, -1);
        SlantOaths ring = Checks.table(5);
        for (int[] oath : new int[][] {{0, 1}, {1, 2}, {2, 0}, {2, 3}, {3, 4}}) {
            ring.swear(oath[0], oath[1], true);
        }
        holds(ring, 0, 0, 0, 1, 1, -1);
        ring.drop(0);
        holds(ring, 1, 1, 1, -1);
    }

    private static void swear() {
        Checks.of("6: Swears that two sheets are of one hand, or of two. Undoable.");
        SlantOaths x = Checks.table(3);
        int saved = x.count(17);
        x.swear(2, 0, true);
        x.swear(1, 2, false);
        Checks.due("each saves a state", saved + 2, () -> x.count(17));
        Checks.due("of one hand", 1, () -> x.compare(0, 2, 4));
        Checks.due("of two hands", 0, () -> x.compare(2, 1, 4));
        Checks.due("undone", saved + 1, x::undo);
        Checks.due("of two hands, undone", -1, () -> x.compare(2, 1, 4));
        Checks.due("of one hand still", 1, () -> x.compare(0, 2, 2));
        Checks.due("undone", saved, x::undo);
        Checks.due("of one hand, undone", 0, () -> x.compare(0, 2, 2) + x.compare(0, 2, 3));
    }

    private static void swearReturnsHands() {
        Checks.of("6: Returns how many hands there are then.");
        SlantOaths x = Checks.table(8);
        for (int i = 1; i < 8; i++) {
            int other = i;
            Checks.due("0 and " + i, 8 - i, () -> x.swear(other, 0, true));
        }
        Checks.due("no hand less", 1, () -> x.swear(6, 7, true));
        SlantOaths y = Checks.table(2);
        Checks.due("of two hands", 2, () -> y.swear(0, 1, false));
    }

    private static void cannotBeSworn() {
        Checks.of("6: Throws `IllegalStateException` if it cannot be sworn");
        SlantOaths x = Checks.table(3);
        Checks.lay(x, "0:9op5~9", 0);
        Checks.lay(x, "20:60p9", 0);
        x.swear(0, 1, true);
        x.swear(1, 2, false);
        int[][] whys = {{0, 0, 1}, {1, 0, 2}, {0, 3, 3}, {0, 4, 4}, {0, 2, 5}};
        for (int[] row : whys) {
            Checks.refuses("for " + row[2], x, Checks.STATE, () -> x.swear(row[0], row[1], true));
        }
        x.recant(1, 2);
        x.swear(1, 2, true);
        for (int[] row : new int[][] {{0, 0, 1}, {1, 0, 2}, {0, 2, 6}}) {
            Checks.refuses("of two, for " + row[2], x, Checks.STATE, () -> x.swear(row[0], row[1], false));
        }
        SlantOaths full = everyPair(8, true);
        Checks.refuses("when all is sworn", full, Checks.STATE, () -> full.swear(0, 7, true));
        Checks.refuses("when all is sworn, of two", full, Checks.STATE, () -> full.swear(7, 6, false));
    }

    private static void noSuchSheet() {
        Checks.noSheets("6: swear", (x, sheet, other) -> x.swear(sheet, other, true));
        Checks.noSheets("6: swear of two hands", (x, sheet, other) -> x.swear(sheet, other, false));
        Checks.noSheets("7: recant", (x, sheet, other) -> x.recant(sheet, other));
        Checks.noSheets("22: whyNot", (x, sheet, other) -> x.whyNot(sheet, other, true));
        Checks.noSheets("22: whyNot of two hands", (x, sheet, other) -> x.whyNot(sheet, other, false));
    }

    private static void recant() {
        Checks.of("7: Takes back an oath of two sheets. Undoable.");
        SlantOaths x = chain(3);
        Checks.due("of one hand, but by others", 0, () -> x.recant(0, 2));
        Checks.due("the first one, turned round", 1, () -> x.recant(1, 0));
        Checks.due("again", 0, () -> x.recant(1, 0));
        Checks.due("of none, turned", 0, () -> x.recant(0, 1));
        Checks.due("the last one", 1, () -> x.recant(1, 2));
        Checks.due("none is left", 0, () -> x.count(1));
        x.undo();
        Checks.due("the last one is back", 1, () -> x.oath(0, 0));
        SlantOaths full = everyPair(8, true);
        Checks.due("of all 28", 1, () -> full.recant(7, 6));
        Checks.due("27 are left", 27, () -> full.count(1));
        Checks.due("and none behind them", -1, () -> full.oath(27, 0));
        Checks.due("it can be sworn again", 1, () -> full.swear(7, 6, true));
        Checks.due("as the newest one", 7, () -> full.oath(27, 0));
        SlantOaths mixed = everyPair(8, false);
        mixed.recant(6, 7);
        mixed.swear(6, 7, true);
        Checks.due("the only one of 28 that joins", 7, () -> mixed.count(3));
        mixed.recant(6, 7);
        Checks.row("it joins nothing more", new int[] {8, 27, 0, 8, 1}, mixed::count);
        Checks.due("found by going", 0, () -> mixed.compare(6, 7, 2));
        Checks.due("found by joining", 0, () -> mixed.compare(6, 7, 3));
        Checks.due("it is no oath of theirs", 6, () -> mixed.sheet(7, 5));
    }

    private static void recantNone() {
        Checks.of("7: Returns 1 if there was one, otherwise 0.");
        SlantOaths x = Checks.table(3);
        Checks.due("of none", 0, () -> x.recant(0, 1));
        Checks.due("of a sheet and itself", 0, () -> x.recant(1, 1));
        Checks.due("saved all the same", 5, () -> x.count(17));
        x.swear(1, 0, false);
        Checks.due("of one of them and another", 0, () -> x.recant(1, 2) + x.recant(2, 0));
        Checks.due("of a sheet that has one and itself", 0, () -> x.recant(0, 0) + x.recant(1, 1));
        Checks.due("it is there", 1, () -> x.count(1));
        Checks.due("of two hands", 1, () -> x.recant(0, 1));
        Checks.due("none then", 0, () -> x.recant(0, 1));
    }

    private static void oathsInOrder() {
        Checks.of("20: `oath`: its place, from 0, the oldest one");
        SlantOaths x = Checks.table(8);
        int[][] oaths = {{7, 0}, {0, 6}, {5, 4}};
        for (int[] oath : oaths) {
            x.swear(oath[0], oath[1], oath[0] != 0);
        }
        Checks.row("the oldest one", new int[] {7, 0, 1, 1}, w -> x.oath(0, w));
        Checks.row("the next one", new int[] {0, 6, 0, 0}, w -> x.oath(1, w));
        Checks.row("the newest one", new int[] {5, 4, 1, 1}, w -> x.oath(2, w));
        x.recant(0, 7);
        Checks.row("the oldest one then", new int[] {0, 6, 0, 0}, w -> x.oath(0, w));
        x.swear(0, 7, true);
        Checks.row("sworn again, it is the newest", new int[] {0, 7, 1, 1}, w -> x.oath(2, w));
    }

    private static void notSoManyOaths() {
        Checks.of("20: Returns the number; NONE if there are not so many.");
        SlantOaths none = new SlantOaths();
        SlantOaths x = Checks.table(2);
        SlantOaths full = everyPair(8, true);
        x.swear(0, 1, true);
        for (int what = 0; what < 4; what++) {
            int w = what;
            Checks.due("of none " + what, -1, () -> none.oath(0, w));
            Checks.due("behind the only one " + what, -1, () -> x.oath(1, w));
            Checks.due("behind 28 " + what, -1, () -> full.oath(28, w));
            Checks.due("far behind " + what, -1, () -> full.oath(Integer.MAX_VALUE, w));
        }
        Checks.row("the last of 28", new int[] {6, 7, 1, 0}, w -> full.oath(27, w));
        Checks.row("the only one", new int[] {0, 1, 1, 1}, w -> x.oath(0, w));
    }

    private static void noSuchOath() {
        Checks.of("20: Throws `IllegalArgumentException` if oath is below 0, or what is not 0 to 3");
        SlantOaths none = new SlantOaths();
        SlantOaths x = Checks.table(2);
        x.swear(0, 1, true);
        for (int what = 0; what < 4; what++) {
            int w = what;
            Checks.refuses("below 0, " + what, x, Checks.ARGUMENT, () -> x.oath(-1, w));
            Checks.refuses("far below 0, " + what, none, Checks.ARGUMENT, () -> none.oath(Integer.MIN_VALUE, w));
        }
        for (int bad : new int[] {-1, 4, Integer.MIN_VALUE, Integer.MAX_VALUE}) {
            Checks.refuses("of what " + bad, x, Checks.ARGUMENT, () -> x.oath(0, bad));
            Checks.refuses("of none, what " + bad, x, Checks.ARGUMENT, () -> x.oath(1, bad));
            Checks.refuses("both wrong, what " + bad, x, Checks.ARGUMENT, () -> x.oath(-1, bad));
        }
    }

    private static void oathOfThem() {
        Checks.of("19: 4: the oath of them: 0 of two hands, 1 of one hand, NONE without one");
        SlantOaths x = Checks.table(4);
        x.swear(0, 1, true);
        x.swear(3, 0, false);
        x.swear(1, 2, true);
        int[][] want = {{-1, 1, -1, 0}, {1, -1, 1, -1}, {-1, 1, -1, -1}, {0, -1, -1, -1}};
        for (int i = 0; i < 4; i++) {
            int sheet = i;
            Checks.row("of " + i, want[i], other -> x.compare(sheet, other, 4));
        }
    }

    private static void handIsTheLowest() {
        Checks.of("16: 4: its hand, that is the lowest sheet of the same hand");
        SlantOaths x = Checks.table(8);
        Checks.row("each its own", new int[] {0, 1, 2, 3, 4, 5, 6, 7}, i -> x.sheet(i, 4));
        x.swear(7, 6, true);
        x.swear(6, 5, true);
        Checks.row("three", new int[] {0, 1, 2, 3, 4, 5, 5, 5}, i -> x.sheet(i, 4));
        x.swear(0, 4, false);
        x.swear(7, 0, true);
        Checks.row("the lowest one joins", new int[] {0, 1, 2, 3, 4, 0, 0, 0}, i -> x.sheet(i, 4));
        x.recant(0, 7);
        Checks.row("and leaves", new int[] {0, 1, 2, 3, 4, 5, 5, 5}, i -> x.sheet(i, 4));
        x.drop(5);
        Checks.row("its lowest goes", new int[] {0, 1, 2, 3, 4, 5, 5}, i -> x.sheet(i, 4));
    }

    private static void oathsOfASheet() {
        Checks.of("16: 5: oaths of it");
        SlantOaths x = Checks.table(3);
        Checks.row("none", new int[] {0, 0, 0}, i -> x.sheet(i, 5));
        x.swear(0, 1, true);
        x.swear(2, 0, false);
        Checks.row("of either kind, on either side", new int[] {2, 1, 1}, i -> x.sheet(i, 5));
        SlantOaths full = everyPair(8, false);
        Checks.row("with all others", new int[] {7, 7, 7, 7, 7, 7, 7, 7}, i -> full.sheet(i, 5));
    }

    private static void countOfOaths() {
        Checks.of("21: 0: sheets; 1: oaths; 2: oaths of one hand");
        SlantOaths x = Checks.table(3);
        Checks.row("without oaths", new int[] {3, 0, 0}, x::count);
        x.swear(0, 1, false);
        Checks.row("one of two hands", new int[] {3, 1, 0}, x::count);
        x.swear(2, 1, true);
        Checks.row("one of each", new int[] {3, 2, 1}, x::count);
        SlantOaths full = everyPair(8, true);
        Checks.row("all", new int[] {8, 28, 28}, full::count);
    }

    private static void hands() {
        Checks.of("21: 3: hands, a sheet without an oath of one hand being one");
        Checks.due("without sheets", 0, () -> new SlantOaths().count(3));
        SlantOaths x = Checks.table(8);
        Checks.due("eight", 8, () -> x.count(3));
        x.swear(0, 1, false);
        Checks.due("an oath of two hands joins nothing", 8, () -> x.count(3));
        x.swear(7, 1, true);
        Checks.due("seven", 7, () -> x.count(3));
        x.drop(7);
        Checks.due("seven of seven", 7, () -> x.count(3));
        SlantOaths chain = chain(8);
        Checks.due("one of eight", 1, () -> chain.count(3));
    }

    private static void mostOfAHand() {
        Checks.of("21: 4: the most sheets of a hand, 0 without sheets");
        SlantOaths x = new SlantOaths();
        Checks.due("without sheets", 0, () -> x.count(4));
        Checks.lay(x, "0:9op5", 0);
        Checks.due("one sheet", 1, () -> x.count(4));
        x.drop(0);
        Checks.due("without sheets again", 0, () -> x.count(4));
        SlantOaths y = Checks.table(8);
        Checks.due("eight hands", 1, () -> y.count(4));
        y.swear(0, 1, true);
        Checks.due("two of one", 2, () -> y.count(4));
        y.swear(5, 6, true);
        y.swear(6, 7, true);
        Checks.due("three of the last one", 3, () -> y.count(4));
        SlantOaths chain = chain(8);
        Checks.due("all eight", 8, () -> chain.count(4));
    }

    private static void swornSoFar() {
        Checks.of("21: 6: oaths that were sworn so far");
        SlantOaths x = Checks.table(3);
        Checks.due("none", 0, () -> x.count(6));
        Checks.refuses("a refused one is not sworn", x, Checks.STATE, () -> x.swear(1, 1, true));
        x.swear(0, 1, true);
        x.recant(0, 1);
        x.swear(0, 1, false);
        Checks.due("taken back, it was sworn", 2, () -> x.count(6));
        x.drop(0);
        Checks.due("gone with a sheet, it was sworn", 2, () -> x.count(6));
        Checks.work(x, "l0/1;l0/1");
        Checks.due("works swear, too, up to the stop", 3, () -> x.count(6));
        x.undo();
        Checks.due("undone, it was not sworn", 2, () -> x.count(6));
    }

    private static void likePairs() {
        Checks.of("21: 7: pairs of unlike sheets whose likeness is setting 8 or more");
        Checks.due("without sheets", 0, () -> new SlantOaths().count(7));
        SlantOaths one = Checks.table(1);
        one.set(8, 0);
        Checks.due("a sheet is no pair with itself", 0, () -> one.count(7));
        SlantOaths full = Checks.table(8);
        Checks.due("each pair once", 28, () -> full.count(7));
        SlantOaths x = Checks.table(2);
        Checks.lay(x, "9:9op5", 0);
        Checks.lay(x, "9:9p5", 0);
        int[] want = {6, 6, 6, 6, 4, 3, 1};
        int[][] likenesses = {{0, 1, 6}, {0, 2, 5}, {0, 3, 3}, {1, 2, 5}, {1, 3, 3}, {2, 3, 4}};
        for (int[] row : likenesses) {
            Checks.due("likeness of " + row[0] + " and " + row[1], row[2], () -> x.compare(row[0], row[1], 0));
        }
        for (int i = 0; i <= 6; i++) {
            x.set(8, i);
            Checks.due("setting 8 is " + i, want[i], () -> x.count(7));
        }
    }

    private static void handShare() {
        Checks.of("26: Returns the likeness of all pairs of unlike sheets of one hand, as a double, divided by 6"
                + " times these pairs");
        SlantOaths full = chain(8);
        Checks.due("28 pairs", 1.0, full::handShare);
        full.set(6, 0);
        Checks.due("28 pairs that have faded", 4 / 6.0, full::handShare);
        SlantOaths x = Checks.table(2);
        Checks.lay(x, "5:9op5", 0);
        x.swear(0, 1, true);
        x.swear(0, 2, true);
        Checks.due("also without an oath of their own", 16 / 18.0, x::handShare);
        SlantOaths none = new SlantOaths();
        Checks.lay(none, "0:1p1,1:60p9,-45:1p1", 0);
        Checks.lay(none, "45:60op9", 0);
        none.set(8, 0);
        none.swear(0, 1, true);
        for (int m = 0; m < 6; m++) {
            none.set(m, 0);
        }
        Checks.due("the least", 0.0, none::handShare);
    }

    private static void handShareWithout() {
        Checks.of("26: 1.0 without any.");
        Checks.due("without sheets", 1.0, () -> new SlantOaths().handShare());
        SlantOaths x = new SlantOaths();
        Checks.lay(x, "0:9op5", 0);
        Checks.due("one sheet", 1.0, x::handShare);
        Checks.lay(x, "45:1p1", 99);
        Checks.due("two hands", 1.0, x::handShare);
        x.swear(0, 1, false);
        Checks.due("an oath of two hands", 1.0, x::handShare);
        x.recant(0, 1);
        x.set(8, 0);
        x.swear(0, 1, true);
        Checks.holds("one hand", () -> x.handShare() < 1.0);
        x.drop(0);
        Checks.due("one sheet again", 1.0, x::handShare);
    }
}
