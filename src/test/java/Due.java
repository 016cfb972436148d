/** Counts the answers that are not as due; each test class ends with its verdict. */
final class Due {
    static final Class<IllegalArgumentException> ARGUMENT = IllegalArgumentException.class;
    static final Class<IllegalStateException> STATE = IllegalStateException.class;
    static final Class<IndexOutOfBoundsException> BOUNDS = IndexOutOfBoundsException.class;

    /** What is being tested, for what is printed. */
    static String place = "";

    private static int checks = 0;
    private static int wrong = 0;

    interface Call {
        Object answer();
    }

    private Due() {
    }

    static void is(String call, Object got, Object want) {
        checks++;
        if (!want.equals(got)) {
            wrong++;
            System.out.println(place + call + " answered " + got + ", due is " + want);
        }
    }

    static int checks() {
        return checks;
    }

    static void is(String call, long got, long want) {
        is(call, (Object) got, (Object) want);
    }

    static void is(String call, double got, double want) {
        is(call, (Object) got, (Object) want);
    }

    /** The call must throw just this class, not one below it, and leave the digest as it was. */
    static void throwing(String name, GearGauge x, Class<?> want, Call call) {
        long before = x.digest();
        is(name, outcome(call), want.getName());
        is(name + ": the digest behind it", x.digest(), before);
    }

    /** The answer, or the name of the exception. */
    static Object outcome(Call call) {
        try {
            return call.answer();
        } catch (RuntimeException e) {
            return e.getClass().getName();
        }
    }

    static void verdict(String test) {
        System.out.println(test + ": " + checks + " checks, " + wrong + " wrong");
        if (wrong != 0 || checks == 0) {
            System.exit(1);
        }
    }
}
