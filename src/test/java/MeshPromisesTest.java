/** Promises 27 to 31: pairs of gears, and statistics over gears. */
public final class MeshPromisesTest {
    public static void main(String[] args) {
        meshOfEqualTeeth();
        meshOfCommonDivisor();
        meshOfOneTooth();
        meshOfCoprimeTeeth();
        meshWithItself();
        meshThrows();
        partner();
        partnerIsNotSymmetric();
        mean();
        ranked();
        Due.verdict("MeshPromisesTest");
    }

    private static GearGauge gauge(int... teeth) {
        GearGauge x = new GearGauge();
        for (int z : teeth) {
            x.addGear(z, 1);
        }
        return x;
    }

    private static void has(String name, GearGauge x, int g, int h, int flank, int... due) {
        for (int phase = 0; phase < due.length; phase++) {
            Due.is(name + " phase " + phase, x.mesh(g, h, flank, phase), due[phase]);
        }
        Due.throwing(name + " phase " + due.length, x, Due.ARGUMENT, () -> x.mesh(g, h, flank, due.length));
    }

    private static void meshOfEqualTeeth() {
        GearGauge x = gauge(5, 5);
        x.setReading(0, 0, 1, 10);
        x.setReading(1, 0, 2, -20);
        has("equal", x, 0, 1, 0, 30, 20 - 10, 30, 30, 30);
        has("equal, other flank", x, 0, 1, 1, 0, 0, 0, 0, 0);
        has("equal, other way", x, 1, 0, 0, 30, 30, 30, 30, 10);
        Due.is("bestPhase equal", x.bestPhase(0, 1, 0), 1);
        Due.is("bestPhase equal, other way", x.bestPhase(1, 0, 0), 4);
        Due.is("bestPhase, all the same", x.bestPhase(0, 1, 1), 0);
    }

    private static void meshOfCommonDivisor() {
        GearGauge x = gauge(6, 8);
        for (int i = 1; i < 8; i += 2) {
            x.setReading(1, 1, i, 4);
            if (i < 6) {
                x.setReading(0, 1, i, 4);
            }
        }
        has("6 and 8", x, 0, 1, 1, 8, 0, 8, 0, 8, 0, 8, 0);
        has("8 and 6", x, 1, 0, 1, 8, 0, 8, 0, 8, 0);
        Due.is("bestPhase 6 and 8", x.bestPhase(0, 1, 1), 1);
        x.setReading(1, 1, 3, 5);
        has("6 and 8", x, 0, 1, 1, 9, 1, 9, 1, 9, 1, 9, 1);
        x.setReading(0, 1, 2, -1);
        has("6 and 8", x, 0, 1, 1, 10, 2, 10, 2, 10, 2, 10, 2);
    }

    /** Tooth 0 alone has the least, and alone the most, of its class of teeth. */
    private static void meshOfOneTooth() {
        for (int sign = -1; sign <= 1; sign += 2) {
            GearGauge x = gauge(6, 8);
            for (int i = 1; i < 6; i++) {
                x.setReading(0, 0, i, 3 * sign);
            }
            has("one tooth of 6", x, 0, 1, 0, 3, 3, 3, 3, 3, 3, 3, 3);
            has("one tooth of 6, other way", x, 1, 0, 0, 3, 3, 3, 3, 3, 3);
        }
    }

    private static void meshOfCoprimeTeeth() {
        GearGauge x = gauge(5, 6);
        x.fill(0, 17, 3000);
        x.fill(1, 18, 3000);
        for (int flank = 0; flank < 2; flank++) {
            // Each tooth meets each one.
            int sum = range(x, 0, flank, 5) + range(x, 1, flank, 6);
            has("coprime", x, 0, 1, flank, sum, sum, sum, sum, sum, sum);
            Due.is("bestPhase coprime", x.bestPhase(0, 1, flank), 0);
        }
    }

    private static int range(GearGauge x, int gear, int flank, int teeth) {
        int most = 0;
        int least = 0;
        for (int i = 0; i < teeth; i++) {
            most = Math.max(most, x.index(gear, flank, i));
            least = Math.min(least, x.index(gear, flank, i));
        }
        return most - least;
    }

    private static void meshWithItself() {
        GearGauge x = gauge(5);
        GearPromisesTest.set(x, 0, 0, 0, 10, -10, 0, 0, 0);
        has("itself", x, 0, 0, 0, 40, 20, 20, 20, 20);
        Due.is("bestPhase itself", x.bestPhase(0, 0, 0), 1);
    }

    private static void meshThrows() {
        GearGauge x = gauge(5, 30);
        has("5 and 30", x, 0, 1, 0, new int[30]);
        has("30 and 5", x, 1, 0, 0, new int[5]);
        int[][] bounds = {{-1, 0, 0}, {2, 0, 0}, {0, -1, 0}, {0, 2, 0}, {0, 1, -1}, {0, 1, 2},
            {Integer.MAX_VALUE, 0, 0}, {0, Integer.MIN_VALUE, 0}, {0, 0, Integer.MIN_VALUE}};
        for (int[] b : bounds) {
            Due.throwing("mesh nowhere", x, Due.BOUNDS, () -> x.mesh(b[0], b[1], b[2], 0));
            Due.throwing("mesh nowhere", x, Due.BOUNDS, () -> x.mesh(b[0], b[1], b[2], -1));
            Due.throwing("bestPhase nowhere", x, Due.BOUNDS, () -> x.bestPhase(b[0], b[1], b[2]));
        }
        Due.throwing("mesh phase -1", x, Due.ARGUMENT, () -> x.mesh(0, 1, 0, -1));
        Due.throwing("mesh phase far", x, Due.ARGUMENT, () -> x.mesh(0, 1, 0, Integer.MAX_VALUE));
        int[][] partners = {{-1, 0}, {2, 0}, {0, -1}, {0, 2}};
        for (int[] p : partners) {
            Due.throwing("partner nowhere", x, Due.BOUNDS, () -> x.partner(p[0], p[1]));
        }
    }

    private static void partner() {
        GearGauge x = gauge(5);
        Due.is("partner, none", x.partner(0, 0), GearGauge.NONE);
        x.addGear(7, 1);
        Due.is("partner, the only one", x.partner(0, 0), 1);
        Due.is("partner, the only one", x.partner(1, 1), 0);
        x.addGear(7, 1);
        x.addGear(8, 1);
        Due.is("partner, of several", x.partner(0, 0), 1);
        Due.is("partner, of several", x.partner(1, 0), 0);
        x.setReading(1, 0, 3, 1);
        Due.is("partner, the better one", x.partner(0, 0), 2);
        Due.is("partner, on the other flank", x.partner(0, 1), 1);
        x.setReading(2, 0, 3, 2);
        Due.is("partner, the better one", x.partner(0, 0), 3);
        x.removeGear(3);
        Due.is("partner, the better one", x.partner(0, 0), 1);
        x.removeGear(2);
        x.removeGear(0);
        Due.is("partner, none left", x.partner(0, 0), GearGauge.NONE);
    }

    /** Of the gears 1 and 2 only the second one has a phase at which it makes up for gear 0. */
    private static void partnerIsNotSymmetric() {
        GearGauge x = gauge(6, 5, 6);
        x.setReading(0, 0, 1, 50);
        x.setReading(1, 0, 1, 10);
        x.setReading(2, 0, 4, -40);
        Due.is("bestPhase that makes up", x.bestPhase(0, 2, 0), 3);
        Due.is("mesh that makes up", x.mesh(0, 2, 0, 3), 10);
        Due.is("mesh that does not", x.mesh(0, 1, 0, 0), 60);
        Due.is("partner that makes up", x.partner(0, 0), 2);
        Due.is("partner of gear 1", x.partner(1, 0), 2);
    }

    private static void mean() {
        GearGauge x = new GearGauge();
        for (int what = 0; what < 9; what++) {
            Due.is("mean without gears", x.mean(what), 0.0);
        }
        Due.throwing("mean 9", x, Due.ARGUMENT, () -> x.mean(9));
        Due.throwing("mean -1", x, Due.ARGUMENT, () -> x.mean(-1));
        x.addGear(5, 1);
        x.setReading(0, 2, 1, 10);
        Due.is("mean of one", x.mean(2), 10.0);
        x.addGear(5, 1);
        x.addGear(5, 1);
        x.setReading(1, 2, 1, -9);
        x.setReading(2, 2, 1, 1);
        Due.is("mean", x.mean(2), 20.0 / 3.0);
        LinePromisesTest.line(x, 1, 1, 0, 4, 8);
        Due.is("mean", x.mean(7), 8.0 / 3.0);
        Due.is("mean", x.mean(4), 0.0);
        x.removeGear(0);
        Due.is("mean", x.mean(2), 5.0);
        Due.throwing("mean far", x, Due.ARGUMENT, () -> x.mean(Integer.MIN_VALUE));
    }

    private static void ranked() {
        GearGauge x = new GearGauge();
        Due.throwing("ranked without gears", x, Due.BOUNDS, () -> x.ranked(0));
        for (int i = 0; i < 6; i++) {
            x.addGear(5, 1);
        }
        for (int i = 0; i < 6; i++) {
            Due.is("ranked equal", x.ranked(i), i);
        }
        x.setReading(0, 2, 0, 90);
        x.setReading(1, 0, 1, 7);
        x.setReading(2, 0, 1, 6);
        x.setReading(4, 1, 1, -7);
        x.setReading(5, 2, 0, 30);
        // Classes 6, 1, 1, 1, 1, 3; deviations 1: 0, 7, 6, 0, 7, 0.
        int[] due = {3, 2, 1, 4, 5, 0};
        for (int i = 0; i < 6; i++) {
            Due.is("ranked " + i, x.ranked(i), due[i]);
        }
        // Now gear 2 has the smallest pitch deviation, 4, but a deviation 1 of 8.
        x.setReading(2, 0, 1, 4);
        x.setReading(2, 0, 2, 8);
        x.setReading(2, 0, 3, 4);
        int[] byRange = {3, 1, 4, 2, 5, 0};
        for (int i = 0; i < 6; i++) {
            Due.is("ranked by deviation 1, " + i, x.ranked(i), byRange[i]);
        }
        x.undo();
        x.undo();
        x.undo();
        Due.throwing("ranked 6", x, Due.BOUNDS, () -> x.ranked(6));
        Due.throwing("ranked -1", x, Due.BOUNDS, () -> x.ranked(-1));
        x.removeGear(3);
        Due.is("ranked after a removal", x.ranked(0), 2);
        Due.is("ranked after a removal", x.ranked(4), 0);
        Due.throwing("ranked 5", x, Due.BOUNDS, () -> x.ranked(5));
    }
}
