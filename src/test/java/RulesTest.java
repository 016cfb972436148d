import java.lang.management.ManagementFactory;
import java.lang.reflect.Constructor;
import java.lang.reflect.Field;
import java.lang.reflect.Method;
import java.lang.reflect.Modifier;
import java.nio.file.Files;
import java.nio.file.Path;
import java.util.Arrays;
import java.util.Set;
import java.util.TreeSet;
import java.util.regex.Pattern;
import java.util.stream.Collectors;

/** The face of the document, and what of LANGUAGE.md a test can see. Runs in the project's folder. */
public final class RulesTest {
    private static final String B = "IndexOutOfBoundsException";
    private static final String A = "IllegalArgumentException";
    private static final String S = "IllegalStateException";

    public static void main(String[] args) throws Exception {
        face();
        insideNames();
        source();
        callsMakeLittle();
        Due.verdict("RulesTest");
    }

    private static final String[] FACE = {
        "int addGear(int, int) " + A + " " + S, "int removeGear(int) " + B,
        "int setReading(int, int, int, int) " + B + " " + A, "int fill(int, int, int) " + B + " " + A,
        "int turn(int, int) " + B + " " + S, "int gears()", "int gear(int, int) " + B + " " + A,
        "int reading(int, int, int) " + B, "int index(int, int, int) " + B, "int pitch(int, int, int) " + B,
        "int span(int, int, int) " + B + " " + A, "int thickness(int, int) " + B, "double eccentricity(int) " + B,
        "int deviation(int, int) " + B + " " + A, "int addLine(int, int) " + B + " " + A + " " + S,
        "int addPoint(int, int) " + B + " " + A + " " + S, "int removeLine(int) " + B, "int lines()",
        "int line(int, int) " + B + " " + A, "int point(int, int) " + B,
        "int lineDeviation(int, int) " + B + " " + A + " " + S,
        "long best(int, boolean, int) " + B + " " + A + " " + S, "int tolerance(int, int, int) " + B + " " + A,
        "int quality(int, int) " + B + " " + A, "int decide(int, int, int) " + B + " " + A,
        "int mesh(int, int, int, int) " + B + " " + A, "int bestPhase(int, int, int) " + B,
        "int partner(int, int) " + B, "double mean(int) " + A, "int ranked(int) " + B,
        "int append(int) " + A + " " + S, "int clearText()", "int parse()", "int undo() " + S, "long digest()",
    };

    private static void face() {
        Class<?> c = GearGauge.class;
        Due.is("package", c.getPackageName(), "");
        Due.is("public final", Modifier.toString(c.getModifiers()), "public final");
        Set<String> got = new TreeSet<>();
        for (Method m : c.getDeclaredMethods()) {
            if (!Modifier.isPrivate(m.getModifiers())) {
                Due.is(m.getName(), Modifier.toString(m.getModifiers()), "public");
                got.add(m.getReturnType() + " " + m.getName() + names(m.getParameterTypes(), ", ", "(", ")")
                        + names(m.getExceptionTypes(), " ", m.getExceptionTypes().length > 0 ? " " : "", ""));
            }
        }
        Due.is("methods", got, new TreeSet<>(Arrays.asList(FACE)));
        Due.is("constructors", c.getDeclaredConstructors().length, 1);
        for (Constructor<?> k : c.getDeclaredConstructors()) {
            Due.is("constructor", k.toString(), "public GearGauge()");
        }
        for (Field f : c.getDeclaredFields()) {
            if (f.getName().equals("NONE")) {
                Due.is("NONE", f.toString(), "public static final int GearGauge.NONE");
            } else {
                Due.is(f.getName(), Modifier.isPrivate(f.getModifiers()), true);
            }
        }
    }

    private static String names(Class<?>[] types, String between, String before, String behind) {
        return Arrays.stream(types).map(Class::getSimpleName).collect(Collectors.joining(between, before, behind));
    }

    /** Rules 1, 2, 5 and 11. */
    private static void insideNames() {
        Set<String> open = new TreeSet<>();
        for (Method m : GearGauge.class.getMethods()) {
            open.add(m.getName());
        }
        Class<?>[] inside = GearGauge.class.getDeclaredClasses();
        Due.is("at most twelve classes", inside.length <= 11, true);
        for (Class<?> c : inside) {
            Due.is(c + " is static", Modifier.isStatic(c.getModifiers()), true);
            Due.is(c + " is not open", c.getModifiers() & (Modifier.PUBLIC | Modifier.PROTECTED), 0);
            for (Method m : c.getDeclaredMethods()) {
                Due.is(m + " has a name of its own", open.contains(m.getName()), false);
            }
            fields(c);
        }
        for (Method m : GearGauge.class.getDeclaredMethods()) {
            Due.is(m + " has few parameters", m.getParameterCount() <= 7, true);
            if (Modifier.isPrivate(m.getModifiers())) {
                Due.is(m + " has a name of its own", open.contains(m.getName()), false);
            }
        }
        fields(GearGauge.class);
    }

    /** What a static field may be, beside the constants of an enum. */
    private static final Set<Class<?>> CONSTANTS = Set.of(int.class, long.class, boolean.class, char.class, String.class,
            int[].class, long[].class, char[].class, byte[].class);

    private static void fields(Class<?> c) {
        int count = 0;
        for (Field f : c.getDeclaredFields()) {
            if (Modifier.isStatic(f.getModifiers())) {
                Due.is(f + " is final", Modifier.isFinal(f.getModifiers()), true);
                Due.is(f + " is a constant", CONSTANTS.contains(f.getType()) || c.isEnum(), true);
            } else {
                count++;
            }
        }
        Due.is(c + " has few fields", count <= 20, true);
    }

    private static void source() throws Exception {
        String text = Files.readString(Path.of("src/main/java/GearGauge.java"));
        Due.is("signs of 1 to 127", text.chars().allMatch(c -> c > 0 && c < 128), true);
        String code = text.replaceAll("(?s)/\\*.*?\\*/", " ").replaceAll("//[^\n]*", " ").replaceAll("\"[^\"]*\"", "\"\"");
        String[] forbidden = {"import (?!java\\.util\\.(ArrayList|List|Arrays|Iterator|NoSuchElementException);)",
            "package ", "finally", "synchronized", "assert", "volatile", "transient", "native", "strictfp", "try \\(",
            "(?m)^(?!\\s*(case|default)\\b).*->", "::", "System\\.(?!arraycopy)", "Math\\.\\w*Exact", "Thread",
            "static\\s*\\{", "Random", "NullPointerException", "ArrayIndexOutOfBoundsException", "ClassCastException",
            "NegativeArraySizeException", "ArrayStoreException", "Throwable", "catch \\(Exception", "hashCode",
            "getMessage"};
        for (String f : forbidden) {
            String word = Character.isLetter(f.charAt(0)) ? "\\b" + f : f;
            Due.is("no " + f, Pattern.compile(word).matcher(code).find(), false);
        }
    }

    private static final com.sun.management.ThreadMXBean THREAD =
            (com.sun.management.ThreadMXBean) ManagementFactory.getThreadMXBean();

    private static long allocated() {
        return THREAD.getCurrentThreadAllocatedBytes();
    }

    /**
     * All calls of a run live in one room of 600,000 objects and 7.3 million elements. Here all rows are made in the
     * constructor, and calls make nothing more; what is asked is only that 512 calls, each as dear as this whole run
     * of them, stay within it.
     */
    private static void callsMakeLittle() {
        GearGauge x = new GearGauge();
        long least = Long.MAX_VALUE;
        long one = Long.MAX_VALUE;
        int answers = 0;
        // The machine makes something of its own now and then, so the least of some rounds counts.
        for (int round = 0; round < 20; round++) {
            long start = allocated();
            answers += work(x);
            least = Math.min(least, allocated() - start);
            start = allocated();
            x = new GearGauge();
            one = Math.min(one, allocated() - start);
        }
        Due.is("the calls make " + least + " bytes", least <= 50000, true);
        Due.is("an object takes " + one + " bytes, less than 50000", one < 50000, true);
        Due.is("the calls answer", answers != 0, true);
    }

    private static int work(GearGauge x) {
        int sum = x.addGear(30, 3) + x.addGear(30, 4) + x.addGear(24, 4) + x.fill(0, 7, 300) + x.fill(1, 8, 300);
        sum += x.addLine(1, 0) + x.addPoint(0, 4) + x.addPoint(0, 5) + x.addPoint(0, 1) + x.addPoint(0, 1);
        sum += x.partner(0, 0) + x.bestPhase(0, 1, 1) + x.mesh(1, 2, 0, 5) + x.ranked(1) + x.quality(1, -1);
        sum += x.decide(1, 5, 3) + x.deviation(1, 1) + x.span(1, 0, 4) + x.thickness(1, -1) + x.turn(0, 0);
        sum += (int) x.best(0, true, 1) + x.lineDeviation(0, 2) + (int) x.mean(3) + (int) x.eccentricity(1);
        sum += (int) x.digest() + x.clearText();
        sum += x.append('g') + x.append('5') + x.append(',') + x.append('9') + x.append(';') + x.parse();
        sum += x.append('p') + x.append('1') + x.append(',') + x.parse() + x.undo() + x.removeLine(0);
        return sum + x.setReading(2, 1, 3, 9) + x.removeGear(2) + x.removeGear(1) + x.removeGear(0) + x.undo()
                + x.gears() + x.removeGear(0);
    }
}
