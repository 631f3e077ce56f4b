/** Promises 23 to 27: nearest, toleranceFor, ifPassed, handShare, digest (22 is in OathsTest). */
public final class WouldBeTest {
    private static final int[] WRONG = {-1, 3, 8, Integer.MIN_VALUE, Integer.MAX_VALUE};

    public static void main(String[] args) {
        nearest();
        toleranceFor();
        ifPassed();
        handShare();
        digestOfNothing();
        digestOfAll();
        Checks.end("WouldBeTest");
    }

    private static void nearest() {
        SlantOaths x = new SlantOaths();
        Checks.refuses("23: no sheet", x, Checks.INDEX, () -> x.nearest(0));
        Checks.lay(x, "10:20op5", 0);
        Checks.due("23: no other one", -1, () -> x.nearest(0));
        Checks.lay(x, "-10:60p1", 0);
        Checks.due("23: the only other one", 1, () -> x.nearest(0));
        Checks.lay(x, "12:20op5", 0);
        Checks.lay(x, "12:20op5", 0);
        Checks.due("23: the lowest of several", 2, () -> x.nearest(0));
        Checks.due("23: not itself", 0, () -> x.nearest(2));
        Checks.due("23: of the unlike one", 0, () -> x.nearest(1));
        for (int bad : new int[] {-1, 4, Integer.MIN_VALUE, Integer.MAX_VALUE}) {
            Checks.refuses("23: nearest(" + bad + ")", x, Checks.INDEX, () -> x.nearest(bad));
        }
        SlantOaths none = new SlantOaths();
        Checks.lay(none, "0:1p1,1:60p9,-45:1p1", 0);
        Checks.lay(none, "45:60op9", 0);
        for (int i = 0; i < 6; i++) {
            none.set(i, 0);
        }
        Checks.due("23: no likeness at all", 0, () -> none.compare(0, 1, 0));
        Checks.due("23: the greatest likeness may be 0", 1, () -> none.nearest(0));
    }

    private static void toleranceFor() {
        SlantOaths x = new SlantOaths();
        Checks.lay(x, "-45:1op1,45:1p9", 0);
        Checks.lay(x, "10:60p1", 25);
        Checks.lay(x, "10:60op1", 40);
        int[] young = {8, 88, 8, 48, 38, 78};
        int[] old = {6, 86, -1, -1, 36, 76};
        int[] faded = {0, 0, -1, -1, 0, 0};
        int[] itself = {0, 0, 0, 0, 0, 0};
        for (int m = 0; m < 6; m++) {
            int mark = m;
            Checks.due("24: two years of ten, mark " + m, young[m], () -> x.toleranceFor(0, 1, mark));
            Checks.due("24: from the other side, mark " + m, young[m], () -> x.toleranceFor(1, 0, mark));
            Checks.due("24: four years of ten, mark " + m, old[m], () -> x.toleranceFor(2, 0, mark));
            Checks.due("24: not below 0, mark " + m, faded[m], () -> x.toleranceFor(1, 2, mark));
            Checks.due("24: with itself, mark " + m, itself[m], () -> x.toleranceFor(0, 0, mark));
        }
        Checks.due("24: faded with itself", -1, () -> x.toleranceFor(2, 2, 3));
        for (int bad : WRONG) {
            Checks.refuses("24: sheet " + bad, x, Checks.INDEX, () -> x.toleranceFor(bad, 0, 6));
            Checks.refuses("24: other " + bad, x, Checks.INDEX, () -> x.toleranceFor(0, bad, 6));
        }
        for (int bad : new int[] {-1, 6, Integer.MIN_VALUE, Integer.MAX_VALUE}) {
            Checks.refuses("24: mark " + bad, x, Checks.ARGUMENT, () -> x.toleranceFor(0, 1, bad));
        }
    }

    private static void ifPassed() {
        SlantOaths x = new SlantOaths();
        Checks.lay(x, "10:20op5", 10);
        Checks.lay(x, "16:20op5", 30);
        Checks.lay(x, "16:20op5", 60);
        Checks.due("25: now", 6, () -> x.compare(0, 1, 0));
        Checks.due("25: just before it fades", 6, () -> x.ifPassed(0, 1, 9));
        Checks.due("25: faded", 4, () -> x.ifPassed(0, 1, 10));
        Checks.due("25: the ages still differ by 10", 3, () -> x.ifPassed(1, 0, 79));
        Checks.due("25: by 20 or more", 4, () -> x.ifPassed(1, 0, 69));
        Checks.due("25: all are 99", 3, () -> x.ifPassed(0, 1, 99));
        Checks.due("25: with itself", 4, () -> x.ifPassed(0, 0, 30));
        Checks.due("25: nothing is changed", 10, () -> x.sheet(0, 1));
        for (int years : new int[] {1, 9, 10, 29, 30, 31, 69, 70, 79, 80, 98, 99}) {
            Checks.due("25: as behind pass " + years, x.ifPassed(0, 1, years), () -> {
                x.pass(years);
                int likeness = x.compare(0, 1, 0);
                x.undo();
                return likeness;
            });
        }
        for (int bad : WRONG) {
            Checks.refuses("25: sheet " + bad, x, Checks.INDEX, () -> x.ifPassed(bad, 0, 0));
            Checks.refuses("25: other " + bad, x, Checks.INDEX, () -> x.ifPassed(0, bad, 0));
        }
        for (int bad : new int[] {-1, 0, 100, Integer.MIN_VALUE, Integer.MAX_VALUE}) {
            Checks.refuses("25: years " + bad, x, Checks.ARGUMENT, () -> x.ifPassed(0, 1, bad));
        }
    }

    private static void handShare() {
        SlantOaths x = new SlantOaths();
        Checks.due("26: without sheets", 1.0, x::handShare);
        Checks.lay(x, "10:20op5", 0);
        Checks.lay(x, "14:20op5", 0);
        Checks.lay(x, "18:20op5", 0);
        Checks.lay(x, "18:20p9", 0);
        Checks.due("26: without a pair", 1.0, x::handShare);
        x.swear(0, 1, true);
        Checks.due("26: one pair", 1.0, x::handShare);
        x.swear(2, 1, true);
        Checks.due("26: three pairs", 17 / 18.0, x::handShare);
        x.swear(0, 3, false);
        Checks.due("26: oaths of two hands do not count", 17 / 18.0, x::handShare);
        for (int i = 0; i < 6; i++) {
            x.set(i, 0);
        }
        x.set(6, 0);
        Checks.due("26: as it is now", 9 / 18.0, x::handShare);
        SlantOaths none = Checks.alike(0);
        Checks.lay(none, "0:1p1,1:60p9,-45:1p1", 0);
        Checks.lay(none, "45:60op9", 0);
        none.set(8, 0);
        none.swear(0, 1, true);
        for (int i = 0; i < 6; i++) {
            none.set(i, 0);
        }
        Checks.due("26: not alike at all", 0.0, none::handShare);
        Checks.due("27: the bits of 0.0", Checks.digestByHand(none, ""), none::digest);
    }

    private static void digestOfNothing() {
        long hash = 3919L;
        long[] values = {0, 0, 0, 0, 0, 0, 0, 0, 4, 10, 3, 20, 8, 6, 40, 2, 4, 0, -1, -1,
            Double.doubleToLongBits(1.0), 0};
        for (long value : values) {
            hash = 31L * hash + value;
        }
        Checks.due("27: of a new object", hash, () -> new SlantOaths().digest());
        long once = hash;
        SlantOaths x = new SlantOaths();
        x.keep();
        Checks.due("27: the snapshot is not told", once, x::digest);
        Checks.write(x, "a~");
        Checks.due("27: the buffer is told", Checks.digestByHand(x, "a~"), x::digest);
        Checks.holds("27: the buffer is told twice", () -> x.digest() != once);
    }

    private static void digestOfAll() {
        SlantOaths x = Checks.alike(2);
        Checks.lay(x, "-3:20op5~3,-4:24p6~1,9:60op1", 40);
        Checks.lay(x, "10:20op5,12:24p6,13:25p6", 31);
        Checks.lay(x, "10:20op5~9,12:24p6", 0);
        Checks.due("27: sheets", Checks.digestByHand(x, ""), x::digest);
        x.swear(0, 1, true);
        x.set(8, 2);
        x.swear(3, 1, true);
        x.swear(0, 2, false);
        Checks.due("27: oaths", Checks.digestByHand(x, ""), x::digest);
        Checks.work(x, "l0/3;u1/3");
        Checks.write(x, "y1;d");
        Checks.due("27: a stop", Checks.digestByHand(x, "y1;d"), x::digest);
        Checks.due("27: the same again", x.digest(), x::digest);
        for (int years = 1; years < 60; years += 7) {
            x.pass(years);
            Checks.due("27: older", Checks.digestByHand(x, "y1;d"), x::digest);
        }
        x.drop(1);
        Checks.due("27: one less", Checks.digestByHand(x, "y1;d"), x::digest);
    }
}
