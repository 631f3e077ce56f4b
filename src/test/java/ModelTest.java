import java.util.Random;

/** All promises: runs of calls, made from fixed seeds, whose answers must be those of the Model. */
public final class ModelTest {
    private static final int RUNS = 60;
    private static final int CALLS = 512;
    private static final int[] FAR = {-1, 8, 9, 17, 18, 60, 99, 100, Integer.MAX_VALUE, Integer.MIN_VALUE};

    private final Random random;
    private final SlantOaths x = new SlantOaths();
    private final Model y = new Model();
    private final int run;
    private int calls = 0;

    private ModelTest(int run) {
        this.run = run;
        random = new Random(run);
    }

    public static void main(String[] args) {
        for (int run = 0; run < RUNS; run++) {
            new ModelTest(run).goThrough();
        }
        Checks.end("ModelTest");
    }

    private void goThrough() {
        while (calls < CALLS) {
            step(random.nextInt(24));
        }
    }

    /** What an object answers behind its last call is not promised, so nothing is asked then. */
    private void same(String call, Checks.Call got, Checks.Call want) {
        if (calls >= CALLS) {
            return;
        }
        calls++;
        Checks.due("run " + run + ", call " + calls + ": " + call, Checks.answer(want), got);
        if (random.nextInt(8) == 0 && calls < CALLS) {
            calls++;
            Checks.due("run " + run + ", digest behind " + call, y.digest(), x::digest);
        }
    }

    /** A number from 0 to below the end, but now and then one from far away. */
    private int upTo(int end) {
        return random.nextInt(40) == 0 ? FAR[random.nextInt(FAR.length)] : random.nextInt(end);
    }

    private int aSheet() {
        return upTo(Math.max(1, y.count(0)));
    }

    private void write(String text) {
        if (random.nextInt(10) > 0) {
            same("clearBuffer", x::clearBuffer, y::clearBuffer);
        }
        for (char c : text.toCharArray()) {
            same("append " + (int) c, () -> x.append(c), () -> y.append(c));
        }
        boolean areWorks = random.nextBoolean();
        same("firstError " + areWorks, () -> x.firstError(areWorks), () -> y.firstError(areWorks));
    }

    private String spoil(String text) {
        if (random.nextInt(8) > 0 || text.isEmpty()) {
            return text;
        }
        int at = random.nextInt(text.length());
        String signs = "0123456789-:op~,;/luyd!";
        String sign = String.valueOf(signs.charAt(random.nextInt(signs.length())));
        return text.substring(0, at) + sign + text.substring(random.nextBoolean() ? at : at + 1);
    }

    private String sheetText() {
        StringBuilder text = new StringBuilder();
        boolean isWild = random.nextInt(6) == 0;
        int strokes = 1 + random.nextInt(random.nextInt(3) == 0 ? 9 : 2);
        for (int i = 0; i < strokes; i++) {
            int slant = isWild ? random.nextInt(91) - 45 : random.nextInt(7) - 2;
            int height = isWild ? 1 + random.nextInt(60) : 15 + random.nextInt(4);
            int pressure = isWild ? 1 + random.nextInt(9) : 5 + random.nextInt(2);
            text.append(i == 0 ? "" : ",").append(slant).append(':').append(height);
            text.append(random.nextInt(4) == 0 ? "" : "o").append('p').append(pressure);
            text.append(random.nextInt(4) == 0 ? "~" + (1 + random.nextInt(9)) : "");
        }
        return spoil(text.toString());
    }

    private String workText() {
        StringBuilder text = new StringBuilder();
        int parts = 1 + random.nextInt(4);
        for (int i = 0; i < parts; i++) {
            int first = random.nextInt(random.nextInt(6) == 0 ? 8 : Math.max(1, y.count(0)));
            int second = random.nextInt(random.nextInt(6) == 0 ? 8 : Math.max(1, y.count(0)));
            text.append(i == 0 ? "" : ";");
            switch (random.nextInt(7)) {
                case 0:
                    text.append('y').append(1 + random.nextInt(12));
                    break;
                case 1:
                    text.append('d').append(first);
                    break;
                default:
                    text.append(random.nextInt(3) > 0 ? 'l' : 'u').append(first).append('/').append(second);
                    break;
            }
        }
        return spoil(text.toString());
    }

    private void step(int kind) {
        int a = aSheet();
        int b = aSheet();
        boolean is = random.nextInt(3) > 0;
        switch (kind) {
            case 0, 1, 2:
                write(sheetText());
                int age = random.nextInt(3) == 0 ? upTo(100) : random.nextInt(20);
                same("lay " + age, () -> x.lay(age), () -> y.lay(age));
                break;
            case 3:
                if (random.nextInt(3) == 0) {
                    same("drop " + a, () -> x.drop(a), () -> y.drop(a));
                }
                break;
            case 4:
                int years = random.nextInt(3) == 0 ? upTo(100) : 1 + random.nextInt(9);
                same("pass " + years, () -> x.pass(years), () -> y.pass(years));
                break;
            case 5:
                int setting = upTo(9);
                int value = random.nextInt(3) > 0 ? upTo(7) : upTo(100);
                same("set " + setting + " " + value, () -> x.set(setting, value), () -> y.set(setting, value));
                break;
            case 6, 7, 8, 9, 10, 11:
                String pair = a + " " + b + " " + is;
                same("whyNot " + pair, () -> x.whyNot(a, b, is), () -> y.whyNot(a, b, is));
                same("swear " + pair, () -> x.swear(a, b, is), () -> y.swear(a, b, is));
                break;
            case 12:
                same("recant " + a + " " + b, () -> x.recant(a, b), () -> y.recant(a, b));
                break;
            case 13, 14:
                write(workText());
                same("work", x::work, y::work);
                break;
            case 15:
                same("undo", x::undo, y::undo);
                break;
            case 16:
                same("keep", x::keep, y::keep);
                break;
            case 17:
                if (random.nextInt(4) == 0) {
                    same("restore", x::restore, y::restore);
                }
                break;
            default:
                look(kind, a, b);
                break;
        }
    }

    private void look(int kind, int a, int b) {
        int what = upTo(8);
        int second = upTo(8);
        switch (kind) {
            case 18:
                same("sheet " + a + " " + what, () -> x.sheet(a, what), () -> y.sheet(a, what));
                same("stroke " + a + " " + what + " " + second, () -> x.stroke(a, what, second),
                        () -> y.stroke(a, what, second));
                same("mark " + a + " " + what, () -> x.mark(a, what), () -> y.mark(a, what));
                break;
            case 19:
                same("compare " + a + " " + b + " " + what, () -> x.compare(a, b, what), () -> y.compare(a, b, what));
                same("toleranceFor " + a + " " + b + " " + what, () -> x.toleranceFor(a, b, what),
                        () -> y.toleranceFor(a, b, what));
                break;
            case 20:
                int years = upTo(101);
                same("ifPassed " + a + " " + b + " " + years, () -> x.ifPassed(a, b, years),
                        () -> y.ifPassed(a, b, years));
                same("nearest " + a, () -> x.nearest(a), () -> y.nearest(a));
                break;
            case 21:
                same("oath " + what + " " + second, () -> x.oath(what, second), () -> y.oath(what, second));
                same("stopped " + second, () -> x.stopped(second), () -> y.stopped(second));
                break;
            case 22:
                int number = upTo(19);
                same("count " + number, () -> x.count(number), () -> y.count(number));
                break;
            default:
                same("handShare", x::handShare, y::handShare);
                same("digest", x::digest, y::digest);
                break;
        }
    }
}
