import java.util.function.BooleanSupplier;

/** What the tests share: calls whose answers, or whose exceptions, are compared with what is due. */
final class Checks {
    interface Call {
        Object now();
    }

    static final String INDEX = "IndexOutOfBoundsException";
    static final String ARGUMENT = "IllegalArgumentException";
    static final String STATE = "IllegalStateException";

    private static int wrong = 0;
    private static int done = 0;

    private Checks() {
    }

    /** The answer as a text, or the very name of what the call throws. */
    static String answer(Call call) {
        try {
            return String.valueOf(call.now());
        } catch (Throwable thrown) {
            return thrown.getClass().getSimpleName();
        }
    }

    static void due(String what, Object want, Call call) {
        done++;
        String got = answer(call);
        if (!got.equals(String.valueOf(want))) {
            wrong++;
            System.out.println(what + " answered " + got + ", due is " + want);
        }
    }

    static void holds(String what, BooleanSupplier isSo) {
        due(what, true, isSo::getAsBoolean);
    }

    /** Calls that throw what is due, and leave the digest as it was. */
    static void refuses(String what, SlantOaths x, String want, Call call) {
        long before = x.digest();
        due(what, want, call);
        due(what + ", then digest", before, x::digest);
    }

    static void write(SlantOaths x, String text) {
        x.clearBuffer();
        for (int i = 0; i < text.length(); i++) {
            x.append(text.charAt(i));
        }
    }

    static int lay(SlantOaths x, String text, int age) {
        write(x, text);
        return x.lay(age);
    }

    static int work(SlantOaths x, String text) {
        write(x, text);
        return x.work();
    }

    /** A table on which every two sheets are alike in all six marks, none being old. */
    static SlantOaths alike(int sheets) {
        SlantOaths x = new SlantOaths();
        for (int i = 0; i < sheets; i++) {
            lay(x, "10:20op5,12:24p6", 1);
        }
        return x;
    }

    static void end(String name) {
        System.out.println(name + ": " + done + " checks, " + wrong + " wrong");
        if (wrong != 0) {
            System.exit(1);
        }
    }
}
