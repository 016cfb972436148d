/** Promises 35 and 36: undo and digest, and that calls that throw change nothing. */
public final class StatePromisesTest {
    public static void main(String[] args) {
        undo();
        undoOfFour();
        everyUndoableCall();
        everyOtherCall();
        undoAfterFailures();
        digestOfGear();
        digestOfEach();
        Due.verdict("StatePromisesTest");
    }

    private static void undo() {
        GearGauge x = new GearGauge();
        Due.throwing("undo nothing", x, Due.STATE, () -> x.undo());
        x.addGear(5, 1);
        Due.is("undo", x.undo(), 0);
        Due.is("undo", x.gears(), 0);
        Due.throwing("undo is not undoable", x, Due.STATE, () -> x.undo());
    }

    /** At most four states, and the oldest is dropped. */
    private static void undoOfFour() {
        GearGauge x = new GearGauge();
        x.addGear(5, 1);
        long[] digests = new long[8];
        for (int i = 0; i < 7; i++) {
            digests[i] = readings(x);
            x.setReading(0, i % 3, i % 5, i + 1);
        }
        for (int left = 3; left >= 0; left--) {
            Due.is("undo of four", x.undo(), left);
            Due.is("undo of four", readings(x), digests[3 + left]);
        }
        Due.throwing("undo of four, a fifth", x, Due.STATE, () -> x.undo());
        Due.is("behind it", readings(x), digests[3]);
        x.setReading(0, 0, 0, 50);
        Due.is("undo again", x.undo(), 0);
        Due.is("undo again", readings(x), digests[3]);
    }

    private static long readings(GearGauge x) {
        long h = 0;
        for (int series = 0; series < 3; series++) {
            for (int i = 0; i < 5; i++) {
                h = 31 * h + x.reading(0, series, i);
            }
        }
        return h;
    }

    /** A gear, a line of one point and a text; nothing saved but by the call. */
    private static GearGauge gauge() {
        GearGauge x = new GearGauge();
        x.addGear(5, 2);
        x.addLine(0, 1);
        x.addPoint(0, 4);
        x.append('g');
        x.append('6');
        x.append(',');
        x.append('2');
        x.append(';');
        return x;
    }

    private interface Step {
        void on(GearGauge x);
    }

    private static void everyUndoableCall() {
        Step[] steps = {x -> x.addGear(6, 2), x -> x.removeGear(0), x -> x.setReading(0, 0, 1, 2),
            x -> x.setReading(0, 0, 1, 0), x -> x.fill(0, 1, 40), x -> x.fill(0, 1, 0), x -> x.turn(0, 1),
            x -> x.turn(0, 0), x -> x.addLine(0, 0), x -> x.addPoint(0, 7), x -> x.removeLine(0), x -> x.parse()};
        for (int i = 0; i < steps.length; i++) {
            GearGauge x = gauge();
            long before = x.digest();
            steps[i].on(x);
            Due.is("undoable call " + i, x.digest() != before, true);
            Due.is("undoable call " + i + " undone", x.undo(), 3);
            Due.is("undoable call " + i + " undone", x.digest(), before);
        }
    }

    private static void everyOtherCall() {
        Step[] steps = {x -> x.gears(), x -> x.gear(0, 3), x -> x.reading(0, 0, 0), x -> x.index(0, 0, 1),
            x -> x.pitch(0, 0, 1), x -> x.span(0, 0, 1), x -> x.thickness(0, -1), x -> x.eccentricity(0),
            x -> x.deviation(0, 0), x -> x.lines(), x -> x.line(0, 0), x -> x.point(0, 0),
            x -> x.tolerance(0, 0, 1), x -> x.quality(0, -1), x -> x.decide(0, 1, 0), x -> x.mesh(0, 0, 0, 1),
            x -> x.bestPhase(0, 0, 0), x -> x.partner(0, 0), x -> x.mean(0), x -> x.ranked(0), x -> x.digest()};
        for (int i = 0; i < steps.length; i++) {
            GearGauge x = gauge();
            long before = x.digest();
            steps[i].on(x);
            Due.is("call " + i + " changes nothing", x.digest(), before);
        }
        GearGauge x = gauge();
        x.addPoint(0, 9);
        x.addPoint(0, -9);
        long before = x.digest();
        x.lineDeviation(0, 2);
        x.best(0, true, 0);
        Due.is("calls about a line change nothing", x.digest(), before);
        x.append('g');
        x.clearText();
        Due.is("calls about the text save nothing", x.undo(), 3);
        Due.is("undo leaves the text", x.clearText(), 0);
    }

    private static void undoAfterFailures() {
        GearGauge x = gauge();
        Due.throwing("failing", x, Due.ARGUMENT, () -> x.addGear(4, 1));
        Due.throwing("failing", x, Due.ARGUMENT, () -> x.addPoint(0, 5001));
        Due.throwing("failing", x, Due.BOUNDS, () -> x.turn(0, 5));
        Due.throwing("failing", x, Due.BOUNDS, () -> x.removeGear(1));
        Due.is("undo after failures", x.undo(), 2);
        Due.is("undo after failures", x.line(0, 2), 0);
    }

    private static long hash(long... values) {
        long h = 2963;
        for (long v : values) {
            h = 31 * h + v;
        }
        return h;
    }

    private static void digestOfGear() {
        GearGauge x = new GearGauge();
        x.append(0);
        Due.is("digest of a text", x.digest(), hash(1, 0, 0, 0));
        x.append(0);
        x.addGear(5, 2);
        GearPromisesTest.set(x, 0, 0, 0, 0, 30, 0, 0, 10);
        GearPromisesTest.set(x, 0, 1, 100, 100, 97, 104, 99, 94);
        GearPromisesTest.set(x, 0, 2, 7, -3, 0, 12, 2);
        LinePromisesTest.line(x, 0, 0, 0, 10, 5);
        LinePromisesTest.line(x, 0, 1, 5000, -5000);
        LinePromisesTest.line(x, 0, 1, 9, 6, 3);
        x.undo();
        x.addPoint(2, 3);
        Due.is("digest", x.digest(), hash(2, 1, 5, 2, 3, x.quality(0, -1), 10, -6,
                0, 0, 30, 0, 0, 10, 100, 100, 97, 104, 99, 94, 7, -3, 0, 12, 2,
                32, 34, 15, 10, 5, 8, 6, 6, 0,
                3, 0, 0, 3, 0, 10, 5, 10, 5, 8, 0, 1, 2, 5000, -5000, 0, 1, 3, 9, 6, 3, 6, -6, 0, 4));
        x.undo();
        Due.is("digest, a saved state less", x.digest(), hash(2, 1, 5, 2, 3, x.quality(0, -1), 10, -6,
                0, 0, 30, 0, 0, 10, 100, 100, 97, 104, 99, 94, 7, -3, 0, 12, 2,
                32, 34, 15, 10, 5, 8, 0, 0, 0,
                3, 0, 0, 3, 0, 10, 5, 10, 5, 8, 0, 1, 2, 5000, -5000, 0, 1, 2, 9, 6, 3));
    }

    /** Two gears and lines of both, with values of gear() that all differ. */
    private static void digestOfEach() {
        GearGauge x = new GearGauge();
        x.addGear(6, 1);
        x.addGear(5, 20);
        x.setReading(1, 2, 2, 90);
        x.setReading(0, 0, 6, 5);
        x.addLine(1, 1);
        Due.is("digest of each", x.digest(), hash(0, 2,
                6, 1, 0, 1, 5, 0, 0, 0, 0, 0, 0, 0, 5, 0, 0, 0, 0, 0, 0, 0, 0, 0, 0, 0, 0, 0,
                4, 4, 0, 0, 0, 0, 0, 0, 0,
                5, 20, 1, x.gear(1, 3), 0, 0, 0, 0, 0, 0, 0, 0, 0, 0, 0, 0, 0, 0, 0, 0, 90, 0, 0,
                0, 0, 90, 0, 0, 0, 0, 0, 0,
                1, 1, 1, 0, 4));
    }
}
