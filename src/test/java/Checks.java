import java.util.ArrayList;
import java.util.List;
import java.util.function.BooleanSupplier;
import java.util.function.IntUnaryOperator;

/** What the tests share: calls whose answers, or whose exceptions, are compared with what is due. */
final class Checks {
    interface Call {
        Object now();
    }

    interface OfSheet {
        Object now(SlantOaths x, int sheet);
    }

    interface OfSheets {
        Object now(SlantOaths x, int sheet, int other);
    }

    static final String INDEX = "IndexOutOfBoundsException";
    static final String ARGUMENT = "IllegalArgumentException";
    static final String STATE = "IllegalStateException";

    private static int wrong = 0;
    private static int done = 0;
    private static String sentence = "";
    private static int doneBefore = 0;
    private static int sentences = 0;

    private Checks() {
    }

    /** The answer as a text, or the very name of what the call throws. */
    static String answer(Call call) {
        try {
            return String.valueOf(call.now());
        } catch (Throwable thrown) {
            return thrown.getClass().getSimpleName();
        }
    }

    static void due(String what, Object want, Call call) {
        done++;
        String got = answer(call);
        if (!got.equals(String.valueOf(want))) {
            wrong++;
            System.out.println(what + " answered " + got + ", due is " + want);
            if (!sentence.isEmpty()) {
                System.out.println("    where the document says: " + sentence);
            }
        }
    }

    /** Begins the test of one sentence of the document; a sentence of which nothing is tested is wrong. */
    static void of(String next) {
        endSentence();
        sentence = next;
        doneBefore = done;
        sentences++;
    }

    private static void endSentence() {
        if (!sentence.isEmpty() && done == doneBefore) {
            wrong++;
            System.out.println("nothing is tested of: " + sentence);
        }
    }

    static void holds(String what, BooleanSupplier isSo) {
        due(what, true, isSo::getAsBoolean);
    }

    /** Calls that throw what is due, and leave the digest as it was. */
    static void refuses(String what, SlantOaths x, String want, Call call) {
        long before = x.digest();
        due(what, want, call);
        due(what + ", then digest", before, x::digest);
    }

    /** The sentence that a call of one sheet has in common with others: on empty, small and full tables. */
    static void noSheet(String name, OfSheet call) {
        of(name + ": Throws `IndexOutOfBoundsException` if there is no such sheet");
        for (int sheets : new int[] {0, 1, 7, 8}) {
            for (int sheet : new int[] {-1, sheets, sheets + 1, Integer.MIN_VALUE, Integer.MAX_VALUE}) {
                SlantOaths x = table(sheets);
                refuses(name + " " + sheet + " of " + sheets, x, INDEX, () -> call.now(x, sheet));
            }
            if (sheets > 0) {
                String first = answer(() -> call.now(table(sheets), 0));
                String last = answer(() -> call.now(table(sheets), sheets - 1));
                holds(name + ", the first of " + sheets, () -> !first.equals(INDEX));
                holds(name + ", the last of " + sheets, () -> !last.equals(INDEX));
            }
        }
        SlantOaths gone = table(3);
        gone.drop(0);
        refuses(name + ", where one has gone", gone, INDEX, () -> call.now(gone, 2));
    }

    /** The same of a call of two sheets, either of which, or both, may not be there. */
    static void noSheets(String name, OfSheets call) {
        noSheet(name + ", the first sheet", (x, sheet) -> call.now(x, sheet, 0));
        noSheet(name + ", the other sheet", (x, sheet) -> call.now(x, 0, sheet));
        noSheet(name + ", both sheets", (x, sheet) -> call.now(x, sheet, sheet));
    }

    /** The numbers that a look answers with 0, 1 and so on. */
    static void row(String what, int[] want, IntUnaryOperator look) {
        for (int i = 0; i < want.length; i++) {
            int at = i;
            due(what + " " + i, want[i], () -> look.applyAsInt(at));
        }
    }

    /**
     * Two objects must be the same in all that calls can tell: the state now, each of the saved ones,
     * and the snapshot. Both are used up by it.
     */
    static void same(String what, SlantOaths x, SlantOaths y) {
        due(what + ", digest", y.digest(), x::digest);
        for (int i = 0; i < 7; i++) {
            due(what + ", undo " + i, answer(y::undo), x::undo);
            due(what + ", digest behind undo " + i, y.digest(), x::digest);
        }
        due(what + ", restore", answer(y::restore), x::restore);
        due(what + ", digest behind restore", y.digest(), x::digest);
    }

    static void write(SlantOaths x, String text) {
        x.clearBuffer();
        for (int i = 0; i < text.length(); i++) {
            x.append(text.charAt(i));
        }
    }

    static int lay(SlantOaths x, String text, int age) {
        write(x, text);
        return x.lay(age);
    }

    static int work(SlantOaths x, String text) {
        write(x, text);
        return x.work();
    }

    /** A table on which every two sheets are alike in all six marks, none being old. */
    static SlantOaths alike(int sheets) {
        SlantOaths x = new SlantOaths();
        for (int i = 0; i < sheets; i++) {
            lay(x, "10:20op5,12:24p6", 1);
        }
        return x;
    }

    /** The same with a text so short that many calls of an object are left. */
    static SlantOaths table(int sheets) {
        SlantOaths x = new SlantOaths();
        for (int i = 0; i < sheets; i++) {
            lay(x, "0:9op5", 0);
        }
        return x;
    }

    /** The values of the digest by the other calls of the face, as the document lists them. */
    static List<Long> digestValues(SlantOaths x, String buffer) {
        List<Long> values = new ArrayList<>();
        for (int what = 0; what < 18; what++) {
            values.add((long) x.count(what));
        }
        for (int i = 0; i < x.count(0); i++) {
            for (int what = 0; what < 7; what++) {
                values.add((long) x.sheet(i, what));
            }
            for (int k = 0; k < x.sheet(i, 0); k++) {
                for (int what = 0; what < 5; what++) {
                    values.add((long) x.stroke(i, k, what));
                }
            }
            for (int mark = 0; mark < 6; mark++) {
                values.add((long) x.mark(i, mark));
            }
            values.add((long) x.nearest(i));
            for (int j = 0; j < x.count(0); j++) {
                for (int what = 0; what < 5; what++) {
                    values.add((long) x.compare(i, j, what));
                }
                values.add((long) x.whyNot(i, j, true));
                values.add((long) x.whyNot(i, j, false));
            }
        }
        for (int k = 0; k < x.count(1); k++) {
            for (int what = 0; what < 4; what++) {
                values.add((long) x.oath(k, what));
            }
        }
        values.add((long) x.stopped(0));
        values.add((long) x.stopped(1));
        values.add(Double.doubleToLongBits(x.handShare()));
        values.add((long) buffer.length());
        for (char c : buffer.toCharArray()) {
            values.add((long) c);
        }
        return values;
    }

    static long digestByHand(SlantOaths x, String buffer) {
        long hash = 3919L;
        for (long value : digestValues(x, buffer)) {
            hash = 31L * hash + value;
        }
        return hash;
    }

    static void end(String name) {
        endSentence();
        String told = sentences == 0 ? "" : ", " + sentences + " sentences";
        System.out.println(name + ": " + done + " checks" + told + ", " + wrong + " wrong");
        if (wrong != 0) {
            System.exit(1);
        }
    }
}
