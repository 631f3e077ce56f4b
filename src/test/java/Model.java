import java.util.ArrayList;
import java.util.Collections;
import java.util.LinkedHashSet;
import java.util.List;
import java.util.Set;
import java.util.TreeSet;
import java.util.regex.Matcher;
import java.util.regex.Pattern;

/**
 * The document once more, in the plainest words of the Java library and without a thought of speed,
 * so that runs of calls can be compared with it. It shares no code and no way of reckoning with the class.
 */
final class Model {
    private static final String STROKE =
            "(?:0|-?(?:[1-9]|[1-3][0-9]|4[0-5])):(?:[1-9]|[1-5][0-9]|60)o?p[1-9](?:~[1-9])?";
    private static final Pattern SHEET = Pattern.compile(STROKE + "(?:," + STROKE + "){0,7}");
    private static final String PART = "(?:[lu][0-7]/[0-7]|y[1-9][0-9]?|d[0-7])";
    private static final Pattern WORKS = Pattern.compile(PART + "(?:;" + PART + ")*");
    private static final int[] MOST = {50, 50, 50, 50, 50, 50, 99, 9, 6};

    record Stroke(int slant, int height, boolean loop, int pressure, int tremor) {
    }

    record Sheet(List<Stroke> strokes, int age) {
    }

    record Oath(int first, int second, boolean like) {
    }

    record State(List<Sheet> sheets, List<Oath> oaths, int sworn, List<Integer> settings, int stop, int reason) {
    }

    private State now = new State(List.of(), List.of(), 0, List.of(4, 10, 3, 20, 8, 6, 40, 2, 4), -1, -1);
    private final List<State> saved = new ArrayList<>();
    private State kept = null;
    private String buffer = "";

    // ---- changes

    private void save() {
        saved.add(now);
        if (saved.size() > 6) {
            saved.remove(0);
        }
    }

    private State with(List<Sheet> sheets, List<Oath> oaths) {
        int newOnes = Math.max(0, oaths.size() - now.oaths().size());
        return new State(sheets, oaths, now.sworn() + newOnes, now.settings(), now.stop(), now.reason());
    }

    int lay(int age) {
        if (!SHEET.matcher(buffer).matches() || age < 0 || age > 99) {
            throw new IllegalArgumentException();
        }
        if (now.sheets().size() == 8) {
            throw new IllegalStateException();
        }
        save();
        List<Stroke> strokes = new ArrayList<>();
        for (String text : buffer.split(",")) {
            String[] parts = text.split("[:op~]+");
            strokes.add(new Stroke(Integer.parseInt(parts[0]), Integer.parseInt(parts[1]), text.contains("o"),
                    Integer.parseInt(parts[2]), parts.length > 3 ? Integer.parseInt(parts[3]) : 0));
        }
        List<Sheet> sheets = new ArrayList<>(now.sheets());
        sheets.add(new Sheet(strokes, age));
        now = with(sheets, now.oaths());
        buffer = "";
        return sheets.size() - 1;
    }

    int drop(int sheet) {
        need(sheet);
        save();
        return doDrop(sheet);
    }

    private int doDrop(int sheet) {
        List<Sheet> sheets = new ArrayList<>(now.sheets());
        sheets.remove(sheet);
        List<Oath> oaths = new ArrayList<>();
        for (Oath o : now.oaths()) {
            if (o.first() != sheet && o.second() != sheet) {
                oaths.add(new Oath(o.first() > sheet ? o.first() - 1 : o.first(),
                        o.second() > sheet ? o.second() - 1 : o.second(), o.like()));
            }
        }
        int gone = now.oaths().size() - oaths.size();
        now = with(sheets, oaths);
        return gone;
    }

    int pass(int years) {
        needThat(years >= 1 && years <= 99);
        save();
        return doPass(years);
    }

    private int doPass(int years) {
        List<Sheet> sheets = new ArrayList<>();
        int oldest = -1;
        for (Sheet s : now.sheets()) {
            Sheet older = new Sheet(s.strokes(), s.age() + years > 99 ? 99 : s.age() + years);
            sheets.add(older);
            oldest = older.age() > oldest ? older.age() : oldest;
        }
        now = with(sheets, now.oaths());
        return oldest;
    }

    int set(int setting, int value) {
        if (setting < 0 || setting > 8) {
            throw new IndexOutOfBoundsException();
        }
        needThat(value >= 0 && value <= MOST[setting]);
        save();
        List<Integer> settings = new ArrayList<>(now.settings());
        int before = settings.set(setting, value);
        now = new State(now.sheets(), now.oaths(), now.sworn(), settings, now.stop(), now.reason());
        return before;
    }

    int swear(int a, int b, boolean like) {
        if (whyNot(a, b, like) != 0) {
            throw new IllegalStateException();
        }
        save();
        doSwear(a, b, like);
        return hands(now.oaths()).size();
    }

    private void doSwear(int a, int b, boolean like) {
        List<Oath> oaths = new ArrayList<>(now.oaths());
        oaths.add(new Oath(a, b, like));
        now = with(now.sheets(), oaths);
    }

    int recant(int a, int b) {
        need(a);
        need(b);
        save();
        List<Oath> oaths = new ArrayList<>(now.oaths());
        boolean was = oaths.removeIf(o -> a != b && Set.of(o.first(), o.second()).equals(Set.of(a, b)));
        now = with(now.sheets(), oaths);
        return was ? 1 : 0;
    }

    int append(int code) {
        needThat(code >= 33 && code <= 126);
        if (buffer.length() == 60) {
            throw new IllegalStateException();
        }
        buffer += (char) code;
        return buffer.length();
    }

    int clearBuffer() {
        int length = buffer.length();
        buffer = "";
        return length;
    }

    int firstError(boolean areWorks) {
        for (int i = 0; i < buffer.length(); i++) {
            Matcher matcher = (areWorks ? WORKS : SHEET).matcher(buffer.substring(0, i + 1));
            if (!matcher.matches() && !matcher.hitEnd()) {
                return i;
            }
        }
        return buffer.length();
    }

    int work() {
        needThat(WORKS.matcher(buffer).matches());
        save();
        String[] parts = buffer.split(";");
        buffer = "";
        int done = 0;
        int reason = 0;
        while (done < parts.length && reason == 0) {
            reason = doPart(parts[done]);
            done += reason == 0 ? 1 : 0;
        }
        now = new State(now.sheets(), now.oaths(), now.sworn(), now.settings(),
                reason == 0 ? -1 : done, reason == 0 ? -1 : reason);
        return done;
    }

    private int doPart(String part) {
        String[] numbers = part.substring(1).split("/");
        int first = Integer.parseInt(numbers[0]);
        if (part.charAt(0) == 'y') {
            doPass(first);
            return 0;
        }
        int second = numbers.length > 1 ? Integer.parseInt(numbers[1]) : first;
        if (first >= now.sheets().size() || second >= now.sheets().size()) {
            return 7;
        }
        if (part.charAt(0) == 'd') {
            doDrop(first);
            return 0;
        }
        int reason = whyNot(first, second, part.charAt(0) == 'l');
        if (reason == 0) {
            doSwear(first, second, part.charAt(0) == 'l');
        }
        return reason;
    }

    int stopped(int what) {
        needThat(what == 0 || what == 1);
        return what == 0 ? now.stop() : now.reason();
    }

    int undo() {
        if (saved.isEmpty()) {
            throw new IllegalStateException();
        }
        now = saved.remove(saved.size() - 1);
        return saved.size();
    }

    int keep() {
        kept = now;
        return now.sheets().size();
    }

    int restore() {
        if (kept == null) {
            throw new IllegalStateException();
        }
        save();
        now = kept;
        return now.sheets().size();
    }

    // ---- looks

    private void need(int sheet) {
        if (sheet < 0 || sheet >= now.sheets().size()) {
            throw new IndexOutOfBoundsException();
        }
    }

    private static void needThat(boolean isSo) {
        if (!isSo) {
            throw new IllegalArgumentException();
        }
    }

    /** The hands, found by putting sets together till nothing more changes. */
    private List<Set<Integer>> hands(List<Oath> oaths) {
        List<Set<Integer>> hands = new ArrayList<>();
        for (int i = 0; i < now.sheets().size(); i++) {
            hands.add(new TreeSet<>(Set.of(i)));
        }
        boolean isChanged = true;
        while (isChanged) {
            isChanged = false;
            for (Oath o : oaths) {
                isChanged |= o.like() && putTogether(hands, o);
            }
        }
        return new ArrayList<>(new LinkedHashSet<>(hands));
    }

    private static boolean putTogether(List<Set<Integer>> hands, Oath o) {
        boolean isChanged = false;
        for (Set<Integer> one : hands) {
            for (Set<Integer> two : hands) {
                if (one.contains(o.first()) && two.contains(o.second())) {
                    isChanged |= one.addAll(two) | two.addAll(one);
                }
            }
        }
        return isChanged;
    }

    private boolean together(List<Oath> oaths, int a, int b) {
        for (Set<Integer> hand : hands(oaths)) {
            if (hand.contains(a) && hand.contains(b)) {
                return true;
            }
        }
        return false;
    }

    private boolean trembles(Sheet s) {
        int sum = s.strokes().stream().mapToInt(Stroke::tremor).sum();
        return sum > s.strokes().size() * now.settings().get(7);
    }

    int sheet(int sheet, int what) {
        need(sheet);
        needThat(what >= 0 && what <= 6);
        Sheet s = now.sheets().get(sheet);
        int hand = 0;
        while (!together(now.oaths(), hand, sheet)) {
            hand++;
        }
        int oaths = (int) now.oaths().stream().filter(o -> o.first() == sheet || o.second() == sheet).count();
        int loops = (int) s.strokes().stream().filter(Stroke::loop).count();
        return new int[] {s.strokes().size(), s.age(), loops, trembles(s) ? 1 : 0, hand, oaths,
            s.age() >= now.settings().get(6) ? 1 : 0}[what];
    }

    int stroke(int sheet, int stroke, int what) {
        need(sheet);
        needThat(stroke >= 0 && stroke <= 7 && what >= 0 && what <= 4);
        List<Stroke> strokes = now.sheets().get(sheet).strokes();
        if (stroke >= strokes.size()) {
            return -1;
        }
        Stroke s = strokes.get(stroke);
        return new int[] {s.slant() + 100, s.height(), s.loop() ? 1 : 0, s.pressure(), s.tremor()}[what];
    }

    int mark(int sheet, int mark) {
        need(sheet);
        needThat(mark >= 0 && mark <= 5);
        return markOf(now.sheets().get(sheet), mark) + 1000;
    }

    private static int mean(int sum, int parts) {
        int mean = 0;
        while (mean * parts > sum) {
            mean--;
        }
        while ((mean + 1) * parts <= sum) {
            mean++;
        }
        return mean;
    }

    private static int markOf(Sheet s, int mark) {
        List<Integer> slants = new ArrayList<>();
        List<Integer> heights = new ArrayList<>();
        List<Integer> looped = new ArrayList<>();
        List<Integer> pressures = new ArrayList<>();
        for (Stroke k : s.strokes()) {
            slants.add(k.slant());
            heights.add(k.height());
            pressures.add(k.pressure());
            if (k.loop()) {
                looped.add(k.height());
            }
        }
        int n = slants.size();
        switch (mark) {
            case 0:
                return mean(sum(slants), n);
            case 1:
                return Collections.max(slants) - Collections.min(slants);
            case 2:
                return looped.isEmpty() ? 0 : mean(mean(sum(looped), looped.size()) * 10, mean(sum(heights), n));
            case 3:
                return mean(looped.size() * 100, n);
            case 4:
                return mean(sum(pressures) * 10, n);
            default:
                int steps = 0;
                for (int i = 1; i < n; i++) {
                    steps += Math.abs(pressures.get(i) - pressures.get(i - 1));
                }
                return n == 1 ? 0 : mean(steps * 10, n - 1);
        }
    }

    private static int sum(List<Integer> numbers) {
        return numbers.stream().mapToInt(i -> i).sum();
    }

    private boolean agree(int a, int b, int mark, int years, int tolerance) {
        Sheet s = now.sheets().get(a);
        Sheet t = now.sheets().get(b);
        int age = Math.min(99, s.age() + years);
        int otherAge = Math.min(99, t.age() + years);
        boolean canFade = mark == 2 || mark == 3;
        if (canFade && (age >= now.settings().get(6) || otherAge >= now.settings().get(6))) {
            return false;
        }
        int more = 0;
        while ((more + 1) * 10 <= Math.abs(age - otherAge)) {
            more++;
        }
        return Math.abs(markOf(s, mark) - markOf(t, mark)) <= tolerance + more;
    }

    private int mask(int a, int b, int years) {
        int mask = 0;
        for (int m = 0; m < 6; m++) {
            mask += agree(a, b, m, years, now.settings().get(m)) ? 1 << m : 0;
        }
        return mask;
    }

    private int likeness(int a, int b) {
        return Integer.bitCount(mask(a, b, 0));
    }

    private int kind(int a, int b) {
        for (Oath o : now.oaths()) {
            if (o.first() == a && o.second() == b || o.first() == b && o.second() == a) {
                return o.like() ? 1 : 0;
            }
        }
        return -1;
    }

    int compare(int a, int b, int what) {
        need(a);
        need(b);
        needThat(what >= 0 && what <= 4);
        int hand = together(now.oaths(), a, b) ? 1 : 0;
        return new int[] {likeness(a, b), mask(a, b, 0), hand, hand, kind(a, b)}[what];
    }

    int oath(int oath, int what) {
        needThat(oath >= 0 && what >= 0 && what <= 3);
        if (oath >= now.oaths().size()) {
            return -1;
        }
        Oath o = now.oaths().get(oath);
        List<Oath> others = new ArrayList<>(now.oaths());
        others.remove(oath);
        boolean holds = o.like() && !together(others, o.first(), o.second());
        return new int[] {o.first(), o.second(), o.like() ? 1 : 0, holds ? 1 : 0}[what];
    }

    int count(int what) {
        needThat(what >= 0 && what <= 17);
        if (what >= 8 && what <= 16) {
            return now.settings().get(what - 8);
        }
        List<Set<Integer>> hands = hands(now.oaths());
        int pairs = 0;
        for (int i = 0; i < now.sheets().size(); i++) {
            for (int j = 0; j < i; j++) {
                pairs += likeness(i, j) >= now.settings().get(8) ? 1 : 0;
            }
        }
        int like = (int) now.oaths().stream().filter(Oath::like).count();
        int most = hands.stream().mapToInt(Set::size).max().orElse(0);
        int trembling = (int) now.sheets().stream().filter(this::trembles).count();
        int[] counts = {now.sheets().size(), now.oaths().size(), like, hands.size(), most, trembling, now.sworn(),
            pairs};
        return what == 17 ? saved.size() : counts[what];
    }

    // ---- what would be

    int whyNot(int a, int b, boolean like) {
        need(a);
        need(b);
        if (a == b) {
            return 1;
        }
        if (kind(a, b) >= 0) {
            return 2;
        }
        if (!like) {
            return together(now.oaths(), a, b) ? 6 : 0;
        }
        if (trembles(now.sheets().get(a)) || trembles(now.sheets().get(b))) {
            return 3;
        }
        if (likeness(a, b) < now.settings().get(8)) {
            return 4;
        }
        List<Oath> then = new ArrayList<>(now.oaths());
        then.add(new Oath(a, b, true));
        for (Oath o : now.oaths()) {
            if (!o.like() && together(then, o.first(), o.second())) {
                return 5;
            }
        }
        return 0;
    }

    int nearest(int sheet) {
        need(sheet);
        for (int alike = 6; alike >= 0; alike--) {
            for (int i = 0; i < now.sheets().size(); i++) {
                if (i != sheet && likeness(sheet, i) == alike) {
                    return i;
                }
            }
        }
        return -1;
    }

    int toleranceFor(int a, int b, int mark) {
        need(a);
        need(b);
        needThat(mark >= 0 && mark <= 5);
        for (int tolerance = 0; tolerance < 2000; tolerance++) {
            if (agree(a, b, mark, 0, tolerance)) {
                return tolerance;
            }
        }
        return -1;
    }

    int ifPassed(int a, int b, int years) {
        need(a);
        need(b);
        needThat(years >= 1 && years <= 99);
        return Integer.bitCount(mask(a, b, years));
    }

    double handShare() {
        int pairs = 0;
        int alike = 0;
        for (Set<Integer> hand : hands(now.oaths())) {
            for (int i : hand) {
                for (int j : hand) {
                    pairs += i < j ? 1 : 0;
                    alike += i < j ? likeness(i, j) : 0;
                }
            }
        }
        return pairs == 0 ? 1.0 : (double) alike / (6 * pairs);
    }

    long digest() {
        List<Long> values = new ArrayList<>();
        for (int what = 0; what < 18; what++) {
            values.add((long) count(what));
        }
        int n = now.sheets().size();
        for (int i = 0; i < n; i++) {
            for (int what = 0; what < 7; what++) {
                values.add((long) sheet(i, what));
            }
            for (int k = 0; k < now.sheets().get(i).strokes().size(); k++) {
                for (int what = 0; what < 5; what++) {
                    values.add((long) stroke(i, k, what));
                }
            }
            for (int m = 0; m < 6; m++) {
                values.add((long) mark(i, m));
            }
            values.add((long) nearest(i));
            for (int j = 0; j < n; j++) {
                for (int what = 0; what < 5; what++) {
                    values.add((long) compare(i, j, what));
                }
                values.add((long) whyNot(i, j, true));
                values.add((long) whyNot(i, j, false));
            }
        }
        for (int k = 0; k < now.oaths().size(); k++) {
            for (int what = 0; what < 4; what++) {
                values.add((long) oath(k, what));
            }
        }
        values.add((long) stopped(0));
        values.add((long) stopped(1));
        values.add(Double.doubleToLongBits(handShare()));
        values.add((long) buffer.length());
        buffer.chars().forEach(c -> values.add((long) c));
        long hash = 3919L;
        for (long value : values) {
            hash = 31L * hash + value;
        }
        return hash;
    }
}
