import java.io.IOException;
import java.lang.management.ManagementFactory;
import java.lang.reflect.Constructor;
import java.lang.reflect.Field;
import java.lang.reflect.Method;
import java.lang.reflect.Modifier;
import java.nio.file.Files;
import java.nio.file.Path;
import java.util.TreeSet;
import java.util.regex.Matcher;
import java.util.regex.Pattern;

/** What LANGUAGE.md asks of the class as far as a test can see it. Runs in the project's folder. */
final class LanguageTest {
    private static final Due DUE = new Due("LanguageTest");
    private static final String FACE = "letter(int) blank() fault() rows() row(int,int) as(int,int) term(int,int) by(int,int,int) "
        + "lap(int,int,int) least(int,int,int) rule(int,int) roots(int,int) noughts(int) ends(int) open(int,int) meets(int,int,int) "
        + "told(int,int,int,int) sum(int,int) product(int,int) each(int,int,int) step(int) put(int,int,int) drop() ease(int) "
        + "give(int) forget() guess(int) found() drawn(int,int,int) image() restore() count(int) digest()";

    public static void main(String[] args) throws IOException {
        face();
        nested();
        words();
        room();
        DUE.end();
    }

    private static void face() {
        Class<?> all = AheadRows.class;
        DUE.holds("the class is public and final", Modifier.isPublic(all.getModifiers()) && Modifier.isFinal(all.getModifiers()));
        TreeSet<String> open = new TreeSet<>();
        TreeSet<String> hidden = new TreeSet<>();
        for (Method method : all.getDeclaredMethods()) {
            if (Modifier.isPrivate(method.getModifiers())) {
                hidden.add(method.getName());
                continue;
            }
            DUE.holds(method + " is public and no static one", method.getModifiers() == Modifier.PUBLIC);
            Class<?> type = method.getName().equals("digest") ? long.class : int.class;
            DUE.holds("the type of " + method, method.getReturnType() == type);
            String text = method.toString().replaceFirst(".* AheadRows\\.", "");
            open.add(text);
        }
        DUE.holds("the methods are those of the document", open.equals(new TreeSet<>(java.util.List.of(FACE.split(" ")))));
        for (String name : hidden) DUE.holds("private " + name + " is no public name", !FACE.matches("(.* )?" + name + "\\(.*"));
        Constructor<?>[] constructors = all.getDeclaredConstructors();
        DUE.holds("one public constructor", constructors.length == 1 && Modifier.isPublic(constructors[0].getModifiers())
            && constructors[0].getParameterCount() == 0);
        TreeSet<String> constants = new TreeSet<>();
        for (Field field : all.getDeclaredFields()) {
            boolean open1 = Modifier.isPublic(field.getModifiers());
            if (open1) constants.add(field.getName());
            DUE.holds(field + " is private or a constant", open1 || Modifier.isPrivate(field.getModifiers()));
            DUE.holds(field + ": static means final", !Modifier.isStatic(field.getModifiers()) || Modifier.isFinal(field.getModifiers()));
        }
        DUE.holds("the constants", constants.equals(new TreeSet<>(java.util.List.of("NONE", "FAR", "UNKNOWN", "OUTSIDE", "STATE", "FULL"))));
        DUE.is("NONE", AheadRows.NONE, Due.NONE);
        DUE.is("FAR", AheadRows.FAR, Due.FAR);
        DUE.is("UNKNOWN", AheadRows.UNKNOWN, Due.UNKNOWN);
        DUE.is("OUTSIDE", AheadRows.OUTSIDE, Due.OUTSIDE);
        DUE.is("STATE", AheadRows.STATE, Due.STATE);
        DUE.is("FULL", AheadRows.FULL, Due.FULL);
    }

    private static void nested() {
        Class<?>[] nested = AheadRows.class.getDeclaredClasses();
        DUE.holds("at most twelve classes", nested.length + 1 <= 12);
        for (Class<?> inside : nested) {
            DUE.holds(inside + " is static and not public", Modifier.isStatic(inside.getModifiers()) && !Modifier.isPublic(inside.getModifiers()));
            for (Field field : inside.getDeclaredFields()) {
                DUE.holds(field + ": static means final", !Modifier.isStatic(field.getModifiers()) || Modifier.isFinal(field.getModifiers()));
            }
            for (Method method : inside.getDeclaredMethods()) {
                DUE.holds(method + " bears no public name", !FACE.matches("(.* )?" + method.getName() + "\\(.*"));
                DUE.holds(method + " takes at most seven", method.getParameterCount() <= 7);
            }
        }
    }

    private static void words() throws IOException {
        String source = Files.readString(Path.of("src/main/java/AheadRows.java"));
        String code = source.replaceAll("(?s)/\\*.*?\\*/", " ").replaceAll("//[^\n]*", " ");
        String forbidden = "throw|throws|try|catch|finally|synchronized|assert|import|package|native|volatile|transient|strictfp"
            + "|hashCode|toString|equals|System\\.(?!arraycopy)\\w+|Thread|Random|Object|Exact|->|::";
        Matcher matcher = Pattern.compile("(?<!\\w)(" + forbidden + ")(?!\\w)|Exact\\(|\"").matcher(code);
        while (matcher.find()) DUE.holds("no '" + matcher.group() + "' in the class", false);
        Matcher method = Pattern.compile("\n( {4}| {8})(?! )[^\n;=]*\\) \\{\n.*?\n\\1\\}", Pattern.DOTALL).matcher(code);
        int found = 0;
        while (method.find()) {
            found++;
            int lines = method.group().split("\n").length;
            DUE.holds("a method of " + lines + " lines: " + method.group().trim().split("\n")[0], lines <= 60);
        }
        DUE.holds("the methods are found", found > 100);
    }

    /** No call makes an object: all rooms stand from the constructor on. */
    private static void room() {
        com.sun.management.ThreadMXBean threads = (com.sun.management.ThreadMXBean) ManagementFactory.getThreadMXBean();
        AheadRows x = new AheadRows();
        everyCall(x);
        long before = threads.getCurrentThreadAllocatedBytes();
        long sum = 0;
        for (int i = 0; i < 200; i++) sum += everyCall(x);
        long made = threads.getCurrentThreadAllocatedBytes() - before;
        DUE.holds("calls were made", sum != 0);
        // The least object has 16 bytes, and 200 of them would be more than this.
        DUE.holds("calls make nothing: " + made + " bytes", made < 2000);
        before = threads.getCurrentThreadAllocatedBytes();
        new AheadRows();
        long whole = threads.getCurrentThreadAllocatedBytes() - before;
        DUE.holds("an object takes less than 64 kB: " + whole, whole < 65536);
    }

    private static long everyCall(AheadRows x) {
        long h = x.blank() + x.letter('t') + x.letter('1') + x.letter('1') + x.letter('0') + x.letter('1') + x.fault() + x.rows();
        h += x.told(2, 0, 3, 6) + x.sum(0, 1) + x.product(0, 1) + x.each(0, 2, 3) + x.step(1) + x.put(0, 2, 3) + x.product(3, 3);
        h += x.image() + x.ease(4) + x.drop() + x.restore() + x.give(3) + x.give(4) + x.give(50) + x.guess(1) + x.found() + x.forget();
        for (int row = 0; row < 8; row++) {
            h += x.row(row, 1) + x.as(row, 5) + x.term(row, 200) + x.by(row, 999999999, 9) + x.lap(row, 7, 2) + x.least(row, 7, 3);
            h += x.rule(row, 4) + x.roots(row, 1) + x.noughts(row) + x.ends(row) + x.open(row, 1) + x.meets(row, 1, 10);
        }
        return h + x.drawn(30, 5, 0) + x.count(2) + x.digest();
    }
}
