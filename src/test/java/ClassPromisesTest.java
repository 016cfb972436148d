/** Promises 24 to 26: tolerances, classes and decisions. */
public final class ClassPromisesTest {
    public static void main(String[] args) {
        toleranceOfClass5();
        toleranceOfAllClasses();
        tolerancesThrow();
        quality();
        qualityOfGear();
        decide();
        decideOverAllDeviations();
        Due.verdict("ClassPromisesTest");
    }

    private static GearGauge gauge(int teeth, int module) {
        GearGauge x = new GearGauge();
        x.addGear(teeth, module);
        return x;
    }

    private static void toleranceOfClass5() {
        int[][] due = {
            {5, 1, 35, 95, 76, 52, 36, 41, 64, 38, 38},
            {30, 20, 114, 394, 315, 264, 184, 211, 108, 64, 64},
            {12, 4, 48, 148, 118, 86, 60, 68, 72, 43, 43},
            // Roots of 35, 36 and 37.
            {5, 7, 56, 146, 116, 115, 80, 92, 70, 42, 42},
            {6, 6, 54, 154, 123, 106, 74, 84, 72, 43, 43},
            {9, 4, 48, 148, 118, 86, 60, 68, 72, 43, 43},
            {37 - 30, 5, 50, 140, 112, 95, 66, 76, 70, 42, 42},
        };
        for (int[] d : due) {
            GearGauge x = gauge(d[0], d[1]);
            for (int what = 0; what < 9; what++) {
                Due.is("tolerance " + d[0] + ", " + d[1] + ", " + what, x.tolerance(0, what, 5), d[what + 2]);
            }
        }
    }

    private static final int[] RUNOUT = {18, 26, 37, 53, 76, 107, 151, 213, 301, 425, 600, 848};

    private static void toleranceOfAllClasses() {
        GearGauge x = new GearGauge();
        x.addGear(30, 20);
        x.addGear(12, 4);
        x.addGear(5, 1);
        // Here both factors matter to the last digit.
        GearGauge fine = gauge(5, 3);
        int[] form = {13, 19, 28, 41, 58, 82, 115, 162, 229, 323, 456, 644};
        for (int q = 1; q <= 12; q++) {
            Due.is("tolerance of the form of class " + q, fine.tolerance(0, 5, q), form[q - 1]);
        }
        int[] first = {27, 39, 56, 80, 114, 161, 227, 320, 452, 639, 903, 1276};
        int[] second = {11, 16, 23, 33, 48, 67, 94, 132, 186, 263, 371, 524};
        for (int q = 1; q <= 12; q++) {
            Due.is("tolerance of class " + q, x.tolerance(0, 0, q), first[q - 1]);
            Due.is("tolerance of class " + q, x.tolerance(1, 0, q), second[q - 1]);
            Due.is("tolerance of class " + q, x.tolerance(2, 2, q), RUNOUT[q - 1]);
        }
    }

    private static void tolerancesThrow() {
        GearGauge x = gauge(5, 1);
        Due.throwing("tolerance no gear", x, Due.BOUNDS, () -> x.tolerance(1, 9, 0));
        Due.throwing("tolerance no gear", x, Due.BOUNDS, () -> x.tolerance(-1, 0, 1));
        int[][] wrong = {{9, 5}, {-1, 5}, {0, 0}, {0, 13}, {0, Integer.MIN_VALUE}, {0, Integer.MAX_VALUE}};
        for (int[] w : wrong) {
            Due.throwing("tolerance " + w[0] + ", " + w[1], x, Due.ARGUMENT, () -> x.tolerance(0, w[0], w[1]));
        }
    }

    private static void quality() {
        GearGauge x = gauge(5, 1);
        for (int q = 1; q <= 12; q++) {
            x.setReading(0, 2, 3, RUNOUT[q - 1]);
            Due.is("quality at the tolerance", x.quality(0, 2), q);
            Due.is("quality at the tolerance, of the gear", x.quality(0, GearGauge.NONE), q);
            Due.is("quality at the tolerance, gear 3", x.gear(0, 3), q);
            x.setReading(0, 2, 3, RUNOUT[q - 1] + 1);
            Due.is("quality above the tolerance", x.quality(0, 2), q + 1);
            Due.is("quality of another deviation", x.quality(0, 1), 1);
        }
        Due.is("quality of the gear", x.quality(0, -1), 13);
        Due.throwing("quality no gear", x, Due.BOUNDS, () -> x.quality(1, 9));
        Due.throwing("quality no gear", x, Due.BOUNDS, () -> x.quality(-1, -1));
        Due.throwing("quality 9", x, Due.ARGUMENT, () -> x.quality(0, 9));
        Due.throwing("quality -2", x, Due.ARGUMENT, () -> x.quality(0, -2));
    }

    /** Each deviation alone makes the class. */
    private static void qualityOfGear() {
        GearGauge x = gauge(5, 1);
        Due.is("quality of zeros", x.quality(0, GearGauge.NONE), 1);
        LinePromisesTest.line(x, 0, 0, 0, 60, 0);
        // Form 60 against 41, 57, 80; total 60 against 52, 73.
        Due.is("quality of the form", x.quality(0, 5), 7);
        Due.is("quality of the total", x.quality(0, 3), 6);
        Due.is("quality of the slope", x.quality(0, 4), 1);
        Due.is("quality by the form", x.quality(0, GearGauge.NONE), 7);
        x.removeLine(0);
        LinePromisesTest.line(x, 0, 1, 0, 70, 140);
        // Slope 140 against 38, 53, 74, 104, 147; total 140 against 64, 90, 127, 179.
        Due.is("quality of the slope", x.quality(0, 7), 9);
        Due.is("quality of the total", x.quality(0, 6), 8);
        Due.is("quality of the form", x.quality(0, 8), 1);
        Due.is("quality by the slope", x.quality(0, GearGauge.NONE), 9);
        x.setReading(0, 1, 2, 200);
        // Pitch 200 against 35, 49, 69, 97, 137, 193, 272.
        Due.is("quality of the pitch", x.quality(0, 0), 11);
        Due.is("quality of the index", x.quality(0, 1), 8);
        Due.is("quality by the pitch", x.gear(0, 3), 11);
    }

    private static void decide() {
        GearGauge x = gauge(5, 1);
        // The least tolerance of class 5 is 35.
        Due.is("decide zeros, 35", x.decide(0, 5, 35), 0);
        Due.is("decide zeros, 36", x.decide(0, 5, 36), 1);
        Due.is("decide zeros, 1000", x.decide(0, 12, 1000), 1);
        Due.is("decide zeros, 0", x.decide(0, 1, 0), 0);
        x.setReading(0, 2, 0, 90);
        int[][] due = {{5, 0, 2}, {5, 13, 2}, {5, 14, 1}, {5, 1000, 1}, {6, 0, 0}, {6, 17, 0}, {6, 18, 1},
            {1, 71, 2}, {1, 72, 1}, {12, 0, 0}};
        for (int[] d : due) {
            Due.is("decide " + d[0] + ", " + d[1], x.decide(0, d[0], d[1]), d[2]);
        }
        Due.throwing("decide no gear", x, Due.BOUNDS, () -> x.decide(1, 0, -1));
        Due.throwing("decide no gear", x, Due.BOUNDS, () -> x.decide(-1, 1, 0));
        int[][] wrong = {{0, 0}, {13, 0}, {1, -1}, {1, 1001}, {Integer.MAX_VALUE, 0}, {5, Integer.MIN_VALUE}};
        for (int[] w : wrong) {
            Due.throwing("decide " + w[0] + ", " + w[1], x, Due.ARGUMENT, () -> x.decide(0, w[0], w[1]));
        }
    }

    /** An open deviation before or behind one that rejects. */
    private static void decideOverAllDeviations() {
        GearGauge x = gauge(5, 1);
        x.setReading(0, 0, 2, 40);
        Due.is("decide, pitch 40 against 35", x.decide(0, 5, 4), 2);
        Due.is("decide, pitch 40 against 35", x.decide(0, 5, 5), 1);
        LinePromisesTest.line(x, 0, 1, 0, 100, 0);
        Due.is("decide, form 100 against 38", x.decide(0, 5, 61), 2);
        Due.is("decide, form 100 against 38", x.decide(0, 5, 62), 1);
        Due.is("decide, form 100 against 104", x.decide(0, 8, 4), 0);
        Due.is("decide, form 100 against 104", x.decide(0, 8, 5), 1);
    }
}
