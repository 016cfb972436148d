/** Promises 10 to 15: deviations of the teeth and of a gear. */
public final class DeviationPromisesTest {
    public static void main(String[] args) {
        index();
        indexRounding();
        pitch();
        span();
        thickness();
        eccentricity();
        deviation();
        deviationOfLines();
        Due.verdict("DeviationPromisesTest");
    }

    /** Left flank: closing error 10, index deviations 0, -2, 26, -6, -8, 0. Right: 0, 1, -1, 8, 4, 0, error -6. */
    private static GearGauge gauge() {
        GearGauge x = new GearGauge();
        x.addGear(6, 1);
        x.addGear(5, 2);
        GearPromisesTest.set(x, 1, 0, 0, 0, 30, 0, 0, 10);
        GearPromisesTest.set(x, 1, 1, 100, 100, 97, 104, 99, 94);
        GearPromisesTest.set(x, 1, 2, 7, -3, 0, 12, 2);
        return x;
    }

    private static final int[] LEFT = {0, -2, 26, -6, -8, 0};
    private static final int[] RIGHT = {0, 1, -1, 8, 4, 0};

    private static void index() {
        GearGauge x = gauge();
        for (int i = 0; i <= 5; i++) {
            Due.is("index left " + i, x.index(1, 0, i), LEFT[i]);
            Due.is("index right " + i, x.index(1, 1, i), RIGHT[i]);
            Due.is("index of a gear of zeros " + i, x.index(0, 1, i), 0);
        }
        Due.is("index of a gear of zeros", x.index(0, 0, 6), 0);
        int[][] bounds = {{-1, 0, 0}, {2, 0, 0}, {1, -1, 0}, {1, 2, 0}, {1, 0, -1}, {1, 0, 6}, {0, 0, 7},
            {1, 1, Integer.MIN_VALUE}, {1, 1, Integer.MAX_VALUE}};
        for (int[] b : bounds) {
            Due.throwing("index nowhere", x, Due.BOUNDS, () -> x.index(b[0], b[1], b[2]));
        }
    }

    /** Of two equally near numbers the greater one, below 0 too. */
    private static void indexRounding() {
        GearGauge x = new GearGauge();
        x.addGear(6, 1);
        x.setReading(0, 0, 6, 3);
        x.setReading(0, 1, 6, -3);
        int[] up = {0, 1, 1, 2, 2, 3};
        int[] down = {0, 0, -1, -1, -2, -2};
        for (int i = 0; i < 6; i++) {
            Due.is("index, 3 * " + i + " / 6", x.index(0, 0, i), -up[i]);
            Due.is("index, -3 * " + i + " / 6", x.index(0, 1, i), -down[i]);
        }
        x.setReading(0, 0, 0, 5000);
        x.setReading(0, 0, 6, -5000);
        x.setReading(0, 0, 5, -5000);
        Due.is("index far below", x.index(0, 0, 5), -10000 + 8333);
        x.setReading(0, 0, 1, 5000);
        Due.is("index far above", x.index(0, 0, 1), 1667);
    }

    private static void pitch() {
        GearGauge x = gauge();
        int[] left = {-2, 28, -32, -2, 8};
        int[] right = {1, -2, 9, -4, -4};
        for (int i = 1; i <= 5; i++) {
            Due.is("pitch left " + i, x.pitch(1, 0, i), left[i - 1]);
            Due.is("pitch right " + i, x.pitch(1, 1, i), right[i - 1]);
        }
        int[][] bounds = {{-1, 0, 1}, {2, 0, 1}, {1, -1, 1}, {1, 2, 1}, {1, 0, 0}, {1, 0, 6}, {0, 0, 7},
            {1, 0, Integer.MIN_VALUE}, {1, 0, Integer.MAX_VALUE}};
        for (int[] b : bounds) {
            Due.throwing("pitch nowhere", x, Due.BOUNDS, () -> x.pitch(b[0], b[1], b[2]));
        }
    }

    private static void span() {
        GearGauge x = gauge();
        // Left pitches -2, 28, -32, -2, 8: of two -34, of three 34 (8 - 2 + 28), of four 32.
        int[] left = {32, 34, 34, 32, 0};
        // Right pitches 1, -2, 9, -4, -4: of two -8, of three 8, of four 9.
        int[] right = {9, 8, 8, 9, 0};
        for (int k = 1; k <= 5; k++) {
            Due.is("span left " + k, x.span(1, 0, k), left[k - 1]);
            Due.is("span right " + k, x.span(1, 1, k), right[k - 1]);
        }
        Due.throwing("span no gear", x, Due.BOUNDS, () -> x.span(2, 0, 0));
        Due.throwing("span no gear", x, Due.BOUNDS, () -> x.span(-1, 0, 1));
        Due.throwing("span no flank", x, Due.BOUNDS, () -> x.span(1, 2, 0));
        Due.throwing("span no flank", x, Due.BOUNDS, () -> x.span(1, -1, 1));
        Due.throwing("span 0", x, Due.ARGUMENT, () -> x.span(1, 0, 0));
        Due.throwing("span 6", x, Due.ARGUMENT, () -> x.span(1, 0, 6));
        Due.throwing("span far", x, Due.ARGUMENT, () -> x.span(1, 0, Integer.MAX_VALUE));
    }

    private static void thickness() {
        GearGauge x = gauge();
        int[] due = {0, -3, 27, -14, -12};
        for (int i = 0; i < 5; i++) {
            Due.is("thickness " + i, x.thickness(1, i), due[i]);
        }
        Due.is("thickness NONE", x.thickness(1, GearGauge.NONE), 41);
        Due.is("thickness of zeros", x.thickness(0, GearGauge.NONE), 0);
        GearPromisesTest.set(x, 0, 0, 0, 12, 9, 9, 9, 9, 0);
        Due.is("thickness above 0, from tooth 0 to 1", x.thickness(0, GearGauge.NONE), 12);
        GearPromisesTest.set(x, 0, 0, 0, -12, -9, -9, -9, -9, 0);
        Due.is("thickness below 0, from tooth 0 to 1", x.thickness(0, GearGauge.NONE), 12);
        GearPromisesTest.set(x, 0, 0, 0, 0, 0, 0, 0, 20, 0);
        Due.is("thickness of the last tooth", x.thickness(0, GearGauge.NONE), 20);
        Due.is("thickness of zeros", x.thickness(0, 5), 20);
        int[][] bounds = {{-1, 0}, {2, 0}, {2, -1}, {1, -2}, {1, 5}, {0, 6}, {1, Integer.MIN_VALUE}};
        for (int[] b : bounds) {
            Due.throwing("thickness nowhere", x, Due.BOUNDS, () -> x.thickness(b[0], b[1]));
        }
    }

    private static void eccentricity() {
        GearGauge x = gauge();
        // Odd: radial 7, -3, 0, 12, 2; two teeth on: -7, 15, 2, -5, -5.
        Due.is("eccentricity odd", x.eccentricity(1), 7.5);
        Due.is("eccentricity of zeros", x.eccentricity(0), 0.0);
        GearPromisesTest.set(x, 0, 2, 5000, 1, 2, -5000, 4, 5);
        Due.is("eccentricity even", x.eccentricity(0), 5000.0);
        x.setReading(0, 2, 3, 5000);
        Due.is("eccentricity even", x.eccentricity(0), 1.5);
        GearPromisesTest.set(x, 1, 2, 0, 0, 0, 0, 9);
        Due.is("eccentricity around the wheel", x.eccentricity(1), 4.5);
        GearPromisesTest.set(x, 1, 2, 10, 5, 0, 5, 5);
        Due.is("eccentricity below 0, at tooth 0 alone", x.eccentricity(1), 5.0);
        Due.throwing("eccentricity nowhere", x, Due.BOUNDS, () -> x.eccentricity(2));
        Due.throwing("eccentricity nowhere", x, Due.BOUNDS, () -> x.eccentricity(-1));
    }

    private static void deviation() {
        GearGauge x = gauge();
        int[] due = {32, 34, 15, 0, 0, 0, 0, 0, 0};
        for (int what = 0; what < 9; what++) {
            Due.is("deviation " + what, x.deviation(1, what), due[what]);
            Due.is("deviation of zeros " + what, x.deviation(0, what), 0);
        }
        // Now the right flank is the worse one, and its range has no 0 inside.
        GearPromisesTest.set(x, 0, 1, 0, 40, 50, 60, 50, 40, 0);
        Due.is("deviation 0 right", x.deviation(0, 0), 40);
        Due.is("deviation 1 right", x.deviation(0, 1), 60);
        // The deviation 1 is that of one flank, not of both together.
        GearPromisesTest.set(x, 0, 0, 0, -10, -20, -30, -20, -10, 0);
        Due.is("deviation 1 of both", x.deviation(0, 1), 60);
        GearPromisesTest.set(x, 0, 2, 9, 10, 11, 12, 13, 14);
        Due.is("deviation 2 above 0", x.deviation(0, 2), 5);
        GearPromisesTest.set(x, 0, 2, -9, -10, -11, -12, -13, -14);
        Due.is("deviation 2 below 0", x.deviation(0, 2), 5);
        Due.throwing("deviation nowhere", x, Due.BOUNDS, () -> x.deviation(2, 9));
        Due.throwing("deviation nowhere", x, Due.BOUNDS, () -> x.deviation(-1, 0));
        Due.throwing("deviation 9", x, Due.ARGUMENT, () -> x.deviation(0, 9));
        Due.throwing("deviation -1", x, Due.ARGUMENT, () -> x.deviation(0, -1));
    }

    private static void deviationOfLines() {
        GearGauge x = gauge();
        int[][] lines = {{1, 0, 0, 10, 5}, {1, 0, 9, 0, -10}, {0, 0, 0, 500, 0}, {1, 1, 5, 4, 4}, {1, 1, 0, 900}};
        for (int i = 0; i < lines.length; i++) {
            x.addLine(lines[i][0], lines[i][1]);
            for (int k = 2; k < lines[i].length; k++) {
                x.addPoint(i, lines[i][k]);
            }
        }
        // Slope deviations of gear 1: 5 and -19 (profile); -1 (helix, the line of two points does not count).
        // Forms: 7.5 becomes 8, and a half becomes 1 (profile); a half becomes 1 (helix).
        int[] due = {32, 34, 15, 19, 19, 8, 1, 1, 1};
        for (int what = 0; what < 9; what++) {
            Due.is("deviation with lines " + what, x.deviation(1, what), due[what]);
        }
        Due.is("deviation of the other gear", x.deviation(0, 3), 500);
        Due.is("deviation of the other gear", x.deviation(0, 5), 500);
        Due.is("deviation of the other kind", x.deviation(0, 6), 0);
        x.addPoint(4, 0);
        Due.is("deviation with three points", x.deviation(1, 6), 900);
    }
}
