/** Promises 16 to 23: profile and helix lines. */
public final class LinePromisesTest {
    public static void main(String[] args) {
        addLine();
        addPoint();
        removeLine();
        lines();
        line();
        point();
        lineDeviation();
        slopeRounding();
        formRounding();
        lineDeviationAtTheLimits();
        best();
        bestOfTwelve();
        tooFewPoints();
        Due.verdict("LinePromisesTest");
    }

    static int line(GearGauge x, int gear, int kind, int... points) {
        int line = x.addLine(gear, kind);
        for (int y : points) {
            x.addPoint(line, y);
        }
        return line;
    }

    private static GearGauge gauge() {
        GearGauge x = new GearGauge();
        x.addGear(5, 2);
        x.addGear(6, 2);
        return x;
    }

    private static void addLine() {
        GearGauge x = gauge();
        Due.throwing("addLine no gear", x, Due.BOUNDS, () -> x.addLine(2, 2));
        Due.throwing("addLine no gear", x, Due.BOUNDS, () -> x.addLine(-1, 0));
        Due.throwing("addLine kind 2", x, Due.ARGUMENT, () -> x.addLine(0, 2));
        Due.throwing("addLine kind -1", x, Due.ARGUMENT, () -> x.addLine(0, -1));
        for (int i = 0; i < 10; i++) {
            Due.is("addLine", x.addLine(i % 2, i / 5), i);
            Due.is("addLine points", x.line(i, 2), 0);
        }
        Due.throwing("addLine an eleventh", x, Due.STATE, () -> x.addLine(0, 0));
        Due.throwing("addLine an eleventh, no gear", x, Due.BOUNDS, () -> x.addLine(2, 0));
        Due.throwing("addLine an eleventh, kind 2", x, Due.ARGUMENT, () -> x.addLine(0, 2));
        Due.is("addLine undone", x.undo(), 3);
        Due.is("addLine undone", x.lines(), 9);
        Due.is("addLine again", x.addLine(1, 1), 9);
    }

    private static void addPoint() {
        GearGauge x = gauge();
        x.addLine(0, 0);
        x.addLine(0, 0);
        Due.is("addPoint", x.addPoint(0, 5000), 1);
        Due.is("addPoint", x.addPoint(0, -5000), 2);
        Due.is("addPoint on another line", x.addPoint(1, 7), 1);
        Due.is("deviation with two points", x.deviation(0, 3), 0);
        for (int i = 3; i <= 12; i++) {
            Due.is("addPoint", x.addPoint(0, i), i);
        }
        Due.is("deviation with twelve points", x.deviation(0, 3), 10000);
        Due.throwing("addPoint a thirteenth", x, Due.STATE, () -> x.addPoint(0, 0));
        Due.throwing("addPoint a wrong thirteenth", x, Due.ARGUMENT, () -> x.addPoint(0, 5001));
        Due.throwing("addPoint 5001", x, Due.ARGUMENT, () -> x.addPoint(1, 5001));
        Due.throwing("addPoint -5001", x, Due.ARGUMENT, () -> x.addPoint(1, -5001));
        Due.throwing("addPoint no line", x, Due.BOUNDS, () -> x.addPoint(2, 0));
        Due.throwing("addPoint no line", x, Due.BOUNDS, () -> x.addPoint(-1, 5001));
        Due.is("addPoint undone", x.undo(), 3);
        Due.is("addPoint undone", x.line(0, 2), 11);
        Due.is("addPoint again", x.addPoint(0, 99), 12);
        Due.is("addPoint again", x.point(0, 11), 99);
    }

    private static void removeLine() {
        GearGauge x = gauge();
        for (int i = 0; i < 4; i++) {
            line(x, i % 2, i / 2, i, i + 10, i + 30);
        }
        Due.throwing("removeLine 4", x, Due.BOUNDS, () -> x.removeLine(4));
        Due.throwing("removeLine -1", x, Due.BOUNDS, () -> x.removeLine(-1));
        Due.is("removeLine", x.removeLine(1), 3);
        int[] left = {0, 2, 3};
        for (int i = 0; i < 3; i++) {
            Due.is("removeLine gear", x.line(i, 0), left[i] % 2);
            Due.is("removeLine kind", x.line(i, 1), left[i] / 2);
            Due.is("removeLine point", x.point(i, 2), left[i] + 30);
            Due.is("removeLine total", x.lineDeviation(i, 0), 30);
        }
        Due.is("removeLine last", x.removeLine(2), 2);
        Due.throwing("removeLine twice", x, Due.BOUNDS, () -> x.removeLine(2));
        Due.is("removeLine undone", x.undo(), 3);
        Due.is("removeLine undone", x.undo(), 2);
        Due.is("removeLine undone", x.lines(), 4);
        Due.is("removeLine undone", x.point(1, 0), 1);
        Due.is("removeLine first", x.removeLine(0), 3);
        Due.is("removeLine first", x.point(0, 0), 1);
    }

    private static void lines() {
        GearGauge x = gauge();
        for (int i = 0; i < 10; i++) {
            Due.is("lines", x.lines(), i);
            x.addLine(i % 2, 0);
        }
        Due.is("lines", x.lines(), 10);
        x.removeGear(1);
        Due.is("lines", x.lines(), 5);
    }

    private static void line() {
        GearGauge x = gauge();
        line(x, 1, 0, 4, 5);
        line(x, 0, 1);
        int[] first = {1, 0, 2};
        int[] second = {0, 1, 0};
        for (int what = 0; what < 3; what++) {
            Due.is("line 0, " + what, x.line(0, what), first[what]);
            Due.is("line 1, " + what, x.line(1, what), second[what]);
        }
        Due.throwing("line 2", x, Due.BOUNDS, () -> x.line(2, 3));
        Due.throwing("line -1", x, Due.BOUNDS, () -> x.line(-1, 0));
        Due.throwing("line 0, 3", x, Due.ARGUMENT, () -> x.line(0, 3));
        Due.throwing("line 0, -1", x, Due.ARGUMENT, () -> x.line(0, -1));
    }

    private static void point() {
        GearGauge x = gauge();
        line(x, 0, 0, 4, -5);
        line(x, 0, 0, 1, 2, 3);
        Due.is("point", x.point(0, 0), 4);
        Due.is("point", x.point(0, 1), -5);
        Due.is("point", x.point(1, 2), 3);
        int[][] bounds = {{-1, 0}, {2, 0}, {0, -1}, {0, 2}, {1, 3}, {0, Integer.MIN_VALUE}, {0, Integer.MAX_VALUE}};
        for (int[] b : bounds) {
            Due.throwing("point nowhere", x, Due.BOUNDS, () -> x.point(b[0], b[1]));
        }
    }

    private static void has(String name, GearGauge x, int line, int total, int slope, int form) {
        Due.is(name + " total", x.lineDeviation(line, 0), total);
        Due.is(name + " slope", x.lineDeviation(line, 1), slope);
        Due.is(name + " form", x.lineDeviation(line, 2), form);
    }

    private static void lineDeviation() {
        GearGauge x = gauge();
        has("straight", x, line(x, 0, 0, 7, 10, 13, 16), 9, 9, 0);
        has("falling", x, line(x, 0, 0, -7, -10, -13, -16), 9, -9, 0);
        has("level", x, line(x, 1, 1, 42, 42, 42), 0, 0, 0);
        has("peak", x, line(x, 0, 0, 0, 9, 0), 9, 0, 9);
        // b = 3 / 10, so 9 / 10 over the line; the residuals, times 10, are 7, -6, -9, 8.
        has("cup", x, line(x, 0, 1, 1, 0, 0, 2), 2, 1, 2);
        // b = 6 / 10, so 24 / 10 over the line; the residuals, times 10, are 0, -6, -12, 42, -24.
        has("late peak", x, line(x, 0, 1, 0, 0, 0, 6, 0), 6, 2, 7);
    }

    /** b * (n - 1) = y2 - y0 for three points; for four it is 3 * (3 * (y3 - y0) + y2 - y1) / 10. */
    private static void slopeRounding() {
        GearGauge x = gauge();
        Due.is("slope 1.5", x.lineDeviation(line(x, 0, 0, 0, 0, 5, 0), 1), 2);
        Due.is("slope -1.5", x.lineDeviation(line(x, 0, 0, 0, 5, 0, 0), 1), -1);
        Due.is("slope 0.3", x.lineDeviation(line(x, 0, 0, 0, 0, 1, 0), 1), 0);
        Due.is("slope -0.3", x.lineDeviation(line(x, 0, 0, 0, 1, 0, 0), 1), 0);
        Due.is("slope 0.6", x.lineDeviation(line(x, 0, 0, 0, 0, 2, 0), 1), 1);
        Due.is("slope -0.6", x.lineDeviation(line(x, 0, 0, 0, 2, 0, 0), 1), -1);
        Due.is("the absolute slope of a gear", x.deviation(0, 4), 2);
        x.removeLine(0);
        Due.is("the absolute of a rounded slope", x.deviation(0, 4), 1);
    }

    /** The form of three points is half of |y0 - 2 * y1 + y2|. */
    private static void formRounding() {
        GearGauge x = gauge();
        Due.is("form 0.5", x.lineDeviation(line(x, 0, 0, 0, 0, 1), 2), 1);
        Due.is("form 1", x.lineDeviation(line(x, 0, 0, 0, 1, 0), 2), 1);
        Due.is("form 1.5", x.lineDeviation(line(x, 0, 0, 0, 1, -1), 2), 2);
        Due.is("form 0.5 below", x.lineDeviation(line(x, 0, 0, 0, 0, -1), 2), 1);
        // b = 3 / 10; the residuals, times 10, are 2, -1, -4, 3.
        Due.is("form 0.7", x.lineDeviation(line(x, 0, 0, 0, 0, 0, 1), 2), 1);
        // b = 26 / 10; the residuals, times 10, are 4, -2, -8, 6, 0.
        Due.is("form 1.4", x.lineDeviation(line(x, 0, 0, 0, 2, 4, 8, 10), 2), 1);
    }

    private static void lineDeviationAtTheLimits() {
        GearGauge x = gauge();
        has("far apart", x, line(x, 0, 0, -5000, 5000, -5000), 10000, 0, 10000);
        int[] rising = new int[12];
        for (int i = 0; i < 12; i++) {
            rising[i] = i < 6 ? -5000 : 5000;
        }
        // b = 180000 / 143, so 180000 / 13 over the line; the form is 10000 - b = 1250000 / 143.
        has("a step", x, line(x, 0, 0, rising), 10000, 13846, 8741);
    }

    private static void isBest(String name, GearGauge x, int line, long... due) {
        Due.is(name + " b numerator", x.best(line, true, 0), due[0]);
        Due.is(name + " b denominator", x.best(line, true, 1), due[1]);
        Due.is(name + " a numerator", x.best(line, false, 0), due[2]);
        Due.is(name + " a denominator", x.best(line, false, 1), due[3]);
    }

    private static void best() {
        GearGauge x = gauge();
        isBest("straight", x, line(x, 0, 0, 7, 10, 13, 16), 3, 1, 7, 1);
        isBest("falling", x, line(x, 0, 0, -7, -10, -13), -3, 1, -7, 1);
        isBest("in lowest terms as it is", x, line(x, 0, 0, 0, 0, 1), 1, 2, -1, 6);
        isBest("zeros", x, line(x, 0, 1, 0, 0, 0), 0, 1, 0, 1);
        isBest("level", x, line(x, 0, 1, -4, -4, -4), 0, 1, -4, 1);
        isBest("peak", x, line(x, 0, 0, 0, 10, 0), 0, 1, 10, 3);
        isBest("example", x, line(x, 0, 0, 0, 10, 5), 5, 2, 5, 2);
        isBest("four", x, line(x, 0, 0, 0, 0, 0, 1), 3, 10, -1, 5);
        isBest("four down", x, line(x, 0, 0, 0, 0, 0, -1), -3, 10, 1, 5);
        isBest("five", x, line(x, 1, 0, 1, 1, 7, 5), 9, 5, 4, 5);
    }

    private static void bestOfTwelve() {
        GearGauge x = gauge();
        int[] last = new int[12];
        last[11] = 5000;
        // b = 5000 * 5.5 / 143 and a = 5000 / 12 - 5.5 * b.
        isBest("twelve", x, line(x, 0, 0, last), 2500, 13, -25000, 39);
        last[11] = 4999;
        isBest("twelve", x, line(x, 0, 0, last), 4999, 26, -24995, 39);
        // From the last point but one to the last one: 4999 - b = 124975 / 26.
        Due.is("twelve, form", x.lineDeviation(1, 2), 4807);
    }

    private static void tooFewPoints() {
        GearGauge x = gauge();
        line(x, 0, 0);
        for (int points = 0; points < 3; points++) {
            Due.throwing("lineDeviation of few", x, Due.STATE, () -> x.lineDeviation(0, 0));
            Due.throwing("lineDeviation of few", x, Due.STATE, () -> x.lineDeviation(0, 2));
            Due.throwing("lineDeviation of few, 3", x, Due.ARGUMENT, () -> x.lineDeviation(0, 3));
            Due.throwing("lineDeviation of few, -1", x, Due.ARGUMENT, () -> x.lineDeviation(0, -1));
            Due.throwing("lineDeviation no line", x, Due.BOUNDS, () -> x.lineDeviation(1, 3));
            Due.throwing("best of few", x, Due.STATE, () -> x.best(0, true, 1));
            Due.throwing("best of few, 2", x, Due.ARGUMENT, () -> x.best(0, false, 2));
            Due.throwing("best of few, -1", x, Due.ARGUMENT, () -> x.best(0, false, -1));
            Due.throwing("best no line", x, Due.BOUNDS, () -> x.best(1, true, 2));
            Due.throwing("best no line", x, Due.BOUNDS, () -> x.best(-1, true, 0));
            x.addPoint(0, 1);
        }
        Due.is("lineDeviation of three", x.lineDeviation(0, 0), 0);
        Due.throwing("lineDeviation 3", x, Due.ARGUMENT, () -> x.lineDeviation(0, 3));
        Due.throwing("lineDeviation no line", x, Due.BOUNDS, () -> x.lineDeviation(-1, 0));
        Due.throwing("best 2", x, Due.ARGUMENT, () -> x.best(0, true, 2));
    }
}
