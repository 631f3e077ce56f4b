import java.io.IOException;
import java.lang.reflect.Constructor;
import java.lang.reflect.Field;
import java.lang.reflect.Member;
import java.lang.reflect.Method;
import java.lang.reflect.Modifier;
import java.nio.file.Files;
import java.nio.file.Path;
import java.util.ArrayList;
import java.util.Arrays;
import java.util.List;
import java.util.Set;
import java.util.TreeSet;

/** The face of the document, the rules of LANGUAGE.md that can be looked for, and calls with any arguments. */
public final class FaceTest {
    private static final String[] FACE = {
        "int lay(int) IllegalArgumentException IllegalStateException",
        "int drop(int) IndexOutOfBoundsException",
        "int pass(int) IllegalArgumentException",
        "int set(int,int) IndexOutOfBoundsException IllegalArgumentException",
        "int swear(int,int,boolean) IndexOutOfBoundsException IllegalStateException",
        "int recant(int,int) IndexOutOfBoundsException",
        "int append(int) IllegalArgumentException IllegalStateException",
        "int clearBuffer()",
        "int firstError(boolean)",
        "int work() IllegalArgumentException",
        "int stopped(int) IllegalArgumentException",
        "int undo() IllegalStateException",
        "int keep()",
        "int restore() IllegalStateException",
        "int sheet(int,int) IndexOutOfBoundsException IllegalArgumentException",
        "int stroke(int,int,int) IndexOutOfBoundsException IllegalArgumentException",
        "int mark(int,int) IndexOutOfBoundsException IllegalArgumentException",
        "int compare(int,int,int) IndexOutOfBoundsException IllegalArgumentException",
        "int oath(int,int) IllegalArgumentException",
        "int count(int) IllegalArgumentException",
        "int whyNot(int,int,boolean) IndexOutOfBoundsException",
        "int nearest(int) IndexOutOfBoundsException",
        "int toleranceFor(int,int,int) IndexOutOfBoundsException IllegalArgumentException",
        "int ifPassed(int,int,int) IndexOutOfBoundsException IllegalArgumentException",
        "double handShare()",
        "long digest()",
    };

    private static final String[] BANNED = {"import ", "package ", "->", "::", "try ", "catch ", "finally",
        "synchronized", "assert ", "static {", "System.out", "Double.", "Float.", "Long.", "Exact(", "random",
        "equals(", "hashCode(", "toString(", "instanceof", "interface "};

    public static void main(String[] args) throws IOException {
        face();
        members();
        source();
        anyArguments();
        Checks.end("FaceTest");
    }

    private static String told(Method m) {
        List<String> types = new ArrayList<>();
        for (Class<?> type : m.getParameterTypes()) {
            types.add(type.getSimpleName());
        }
        StringBuilder text = new StringBuilder(m.getReturnType().getSimpleName());
        text.append(' ').append(m.getName()).append('(').append(String.join(",", types)).append(')');
        for (Class<?> thrown : m.getExceptionTypes()) {
            text.append(' ').append(thrown.getSimpleName());
        }
        return text.toString();
    }

    private static void face() {
        Set<String> got = new TreeSet<>();
        Set<String> names = new TreeSet<>();
        for (Method m : SlantOaths.class.getDeclaredMethods()) {
            if (Modifier.isPublic(m.getModifiers())) {
                got.add(told(m));
                names.add(m.getName());
            }
        }
        Checks.due("face", new TreeSet<>(Arrays.asList(FACE)), () -> got);
        List<Class<?>> classes = new ArrayList<>(List.of(SlantOaths.class.getDeclaredClasses()));
        classes.add(SlantOaths.class);
        for (Class<?> one : classes) {
            for (Method m : one.getDeclaredMethods()) {
                boolean isFace = one == SlantOaths.class && Modifier.isPublic(m.getModifiers());
                Checks.due("rule 1: name of " + m, false, () -> !isFace && names.contains(m.getName()));
            }
        }
        int modifiers = SlantOaths.class.getModifiers();
        Checks.holds("public and final", () -> Modifier.isPublic(modifiers) && Modifier.isFinal(modifiers));
    }

    private static void members() {
        Class<?> c = SlantOaths.class;
        List<Member> members = new ArrayList<>(List.of(c.getDeclaredFields()));
        members.addAll(List.of(c.getDeclaredMethods()));
        for (Member m : members) {
            if (!Modifier.isPublic(m.getModifiers())) {
                Checks.due("rule 1: private " + m.getName(), true, () -> Modifier.isPrivate(m.getModifiers()));
            }
        }
        Set<String> fields = new TreeSet<>();
        for (Field f : c.getFields()) {
            fields.add(f.toString());
        }
        Checks.due("the constant", "[public static final int SlantOaths.NONE]", () -> fields);
        Constructor<?>[] made = c.getDeclaredConstructors();
        Checks.due("one constructor", "[public SlantOaths()]", () -> Arrays.toString(made));
        for (Class<?> inside : c.getDeclaredClasses()) {
            int modifiers = inside.getModifiers();
            Checks.holds("rule 1: " + inside, () -> Modifier.isPrivate(modifiers) && Modifier.isStatic(modifiers));
            int own = inside.getDeclaredFields().length;
            Checks.holds("rule 11: fields of " + inside, () -> own <= 20);
        }
        Checks.holds("rule 11: classes", () -> c.getDeclaredClasses().length <= 11);
    }

    private static void source() throws IOException {
        List<String> lines = Files.readAllLines(Path.of("src/main/java/SlantOaths.java"));
        int start = 0;
        for (int i = 0; i < lines.size(); i++) {
            String line = lines.get(i);
            String code = line.strip().startsWith("*") || line.strip().startsWith("/") ? "" : line;
            for (String banned : BANNED) {
                Checks.due("line " + (i + 1) + " has " + banned, false, () -> code.contains(banned));
            }
            start = line.isBlank() ? i : start;
            int from = start;
            int to = i;
            Checks.holds("rule 11: no piece of 60 lines at line " + (i + 1), () -> to - from < 60);
        }
    }

    /** Exceptions of the machine have other names than those that the document tells. */
    private static void anyArguments() {
        int[] numbers = {Integer.MIN_VALUE, -100, -1, 0, 1, 2, 5, 7, 8, 9, 27, 28, 59, 60, 61, 99, 100, 126, 127,
            Integer.MAX_VALUE - 1, Integer.MAX_VALUE};
        for (int sheets : new int[] {0, 1, 3, 8}) {
            for (Method m : SlantOaths.class.getDeclaredMethods()) {
                if (Modifier.isPublic(m.getModifiers())) {
                    anyCall(m, sheets, numbers);
                }
            }
        }
    }

    private static void anyCall(Method m, int sheets, int[] numbers) {
        List<String> allowed = new ArrayList<>();
        for (Class<?> thrown : m.getExceptionTypes()) {
            allowed.add(thrown.getSimpleName());
        }
        Class<?>[] types = m.getParameterTypes();
        int cases = 1;
        for (int i = 0; i < types.length; i++) {
            cases *= numbers.length;
        }
        SlantOaths x = Checks.alike(sheets);
        for (int n = 0; n < cases; n++) {
            Object[] values = new Object[types.length];
            int rest = n;
            for (int i = 0; i < types.length; i++) {
                int number = numbers[rest % numbers.length];
                rest /= numbers.length;
                values[i] = types[i] == boolean.class ? (Object) (number % 2 == 0) : (Object) number;
            }
            Checks.due(m.getName() + Arrays.toString(values), true, () -> isAllowed(m, x, values, allowed));
        }
    }

    private static boolean isAllowed(Method m, SlantOaths x, Object[] values, List<String> allowed) {
        try {
            m.invoke(x, values);
            return true;
        } catch (java.lang.reflect.InvocationTargetException e) {
            return allowed.contains(e.getCause().getClass().getSimpleName());
        } catch (IllegalAccessException e) {
            return false;
        }
    }
}
