import java.lang.reflect.InvocationTargetException;
import java.lang.reflect.Method;
import java.lang.reflect.Modifier;
import java.util.Arrays;
import java.util.Comparator;
import java.util.Set;

/**
 * Each method with all combinations of values around its bounds and far beyond them, in an empty, a small and a full
 * object: the answer, or just the exception, of Model, and nothing is changed by what is refused.
 */
public final class SweepTest {
    /** By the number of arguments, so that the combinations stay countable. */
    private static final int[][] VALUES = {{},
        {Integer.MIN_VALUE, -5001, -5000, -2, -1, 0, 1, 2, 3, 4, 5, 6, 7, 8, 9, 10, 11, 12, 13, 30, 31, 59, 126, 127,
            128, 159, 160, 5000, 5001, Integer.MAX_VALUE},
        {Integer.MIN_VALUE, -5001, -5000, -2, -1, 0, 1, 2, 3, 4, 5, 6, 7, 8, 9, 10, 11, 12, 19, 20, 21, 29, 30, 31,
            5000, 5001, Integer.MAX_VALUE},
        {Integer.MIN_VALUE, -2, -1, 0, 1, 2, 3, 4, 5, 6, 8, 9, 12, 13, 30, 31, 1000, 1001, 5001, 999999, 1000000,
            Integer.MAX_VALUE},
        {Integer.MIN_VALUE, -5001, -1, 0, 1, 2, 3, 4, 5, 6, 30, 5000, 5001, Integer.MAX_VALUE}};

    private static final Set<String> CHANGING = Set.of("addGear", "removeGear", "setReading", "fill", "turn", "addLine",
            "addPoint", "removeLine", "append", "clearText", "parse", "undo");

    /** With what a full object takes to be made, fewer than the 512 calls of an object. */
    private static final int CALLS = 150;

    private static GearGauge x;
    private static Model m;
    private static int calls;

    public static void main(String[] args) {
        Method[] all = GearGauge.class.getDeclaredMethods();
        Arrays.sort(all, Comparator.comparing(Method::getName));
        for (Method call : all) {
            if (Modifier.isPublic(call.getModifiers())) {
                for (int kind = 0; kind < 3; kind++) {
                    make(kind);
                    sweep(kind, call, new Object[call.getParameterCount()], 0);
                }
            }
        }
        Due.verdict("SweepTest");
    }

    private static void make(int kind) {
        x = new GearGauge();
        m = new Model();
        calls = 0;
        int[] teeth = kind == 0 ? new int[0] : kind == 1 ? new int[] {5, 6} : new int[] {5, 6, 8, 30, 12, 5};
        for (int i = 0; i < teeth.length; i++) {
            both("addGear", teeth[i], 1 + 3 * i);
            both("fill", i, 7 + i, 300);
        }
        int lines = kind == 0 ? 0 : kind == 1 ? 3 : 10;
        for (int i = 0; i < lines; i++) {
            both("addLine", i % teeth.length, i % 2);
            for (int k = 0; k < (i == 0 ? 12 : i % 4); k++) {
                both("addPoint", i, 40 * k - i * k * k);
            }
        }
        String text = kind == 0 ? "" : kind == 1 ? "g5,1;p1,2,3;" : Bounds.TEXT_OF_160;
        for (char c : text.toCharArray()) {
            both("append", (int) c);
        }
        for (int i = 0; i < 5 - 2 * kind && kind > 0; i++) {
            both("undo");
        }
    }

    private static void both(String name, Object... values) {
        Class<?>[] types = new Class<?>[values.length];
        Arrays.fill(types, int.class);
        try {
            Object want = outcome(Model.class.getDeclaredMethod(name, types), m, values);
            Due.is(name, outcome(GearGauge.class.getDeclaredMethod(name, types), x, values), want);
        } catch (NoSuchMethodException e) {
            throw new IllegalStateException(e);
        }
    }

    private static Object outcome(Method call, Object on, Object[] values) {
        try {
            return call.invoke(on, values);
        } catch (InvocationTargetException e) {
            return e.getCause().getClass().getName();
        } catch (IllegalAccessException e) {
            throw new IllegalStateException(e);
        }
    }

    private static void sweep(int kind, Method call, Object[] values, int from) {
        if (from == values.length) {
            compare(kind, call, values);
        } else if (call.getParameterTypes()[from] == boolean.class) {
            for (boolean v : new boolean[] {false, true}) {
                values[from] = v;
                sweep(kind, call, values, from + 1);
            }
        } else {
            for (int v : VALUES[values.length]) {
                values[from] = v;
                sweep(kind, call, values, from + 1);
            }
        }
    }

    private static void compare(int kind, Method call, Object[] values) {
        Object want;
        try {
            want = outcome(Model.class.getDeclaredMethod(call.getName(), call.getParameterTypes()), m, values);
        } catch (NoSuchMethodException e) {
            throw new IllegalStateException(e);
        }
        Due.is("state " + kind + ", " + call.getName() + Arrays.toString(values), outcome(call, x, values), want);
        calls++;
        boolean changed = CHANGING.contains(call.getName()) && !(want instanceof String);
        if (changed || calls >= CALLS) {
            Due.is("state " + kind + ", digest behind " + call.getName() + Arrays.toString(values), x.digest(), m.digest());
            make(kind);
        }
    }
}
