/** Promises 1 to 9: a new object, gears and readings. */
public final class GearPromisesTest {
    public static void main(String[] args) {
        newObject();
        addGear();
        addGearAfterRemoval();
        usedPlacesAreApart();
        removeGear();
        setReading();
        fill();
        turn();
        turnAtTheLimit();
        gears();
        gear();
        reading();
        Due.verdict("GearPromisesTest");
    }

    static void set(GearGauge x, int gear, int series, int... values) {
        for (int i = 0; i < values.length; i++) {
            x.setReading(gear, series, i, values[i]);
        }
    }

    static void hasReadings(String name, GearGauge x, int gear, int series, int... values) {
        for (int i = 0; i < values.length; i++) {
            Due.is(name + " series " + series + " reading " + i, x.reading(gear, series, i), values[i]);
        }
        Due.throwing(name + " behind the series", x, Due.BOUNDS, () -> x.reading(gear, series, values.length));
    }

    private static void newObject() {
        GearGauge x = new GearGauge();
        Due.is("NONE", GearGauge.NONE, -1);
        Due.is("new gears", x.gears(), 0);
        Due.is("new lines", x.lines(), 0);
        Due.is("new digest", x.digest(), 2963L * 31 * 31 * 31 * 31);
        Due.throwing("new gear", x, Due.BOUNDS, () -> x.gear(0, 0));
        Due.throwing("new line", x, Due.BOUNDS, () -> x.line(0, 0));
        Due.throwing("new undo", x, Due.STATE, () -> x.undo());
        Due.is("new clearText", x.clearText(), 0);
        GearGauge other = new GearGauge();
        x.addGear(5, 1);
        Due.is("another object", other.gears(), 0);
    }

    private static void addGear() {
        GearGauge x = new GearGauge();
        int[][] wrong = {{4, 1}, {31, 1}, {5, 0}, {5, 21}, {-5, 1}, {5, -1}, {Integer.MIN_VALUE, 1},
            {5, Integer.MAX_VALUE}};
        for (int[] w : wrong) {
            Due.throwing("addGear " + w[0] + ", " + w[1], x, Due.ARGUMENT, () -> x.addGear(w[0], w[1]));
        }
        Due.is("addGear smallest", x.addGear(5, 1), 0);
        Due.is("addGear greatest", x.addGear(30, 20), 1);
        hasReadings("addGear", x, 0, 0, 0, 0, 0, 0, 0, 0);
        hasReadings("addGear", x, 0, 2, 0, 0, 0, 0, 0);
        hasReadings("addGear", x, 1, 1, new int[31]);
        hasReadings("addGear", x, 1, 2, new int[30]);
        for (int i = 2; i < 6; i++) {
            Due.is("addGear", x.addGear(7, 3), i);
        }
        Due.throwing("addGear a seventh", x, Due.STATE, () -> x.addGear(7, 3));
        Due.throwing("addGear a wrong seventh", x, Due.ARGUMENT, () -> x.addGear(31, 3));
        Due.throwing("addGear a wrong seventh", x, Due.ARGUMENT, () -> x.addGear(30, 0));
        Due.is("addGear undone", x.undo(), 3);
        Due.is("addGear undone", x.gears(), 5);
        Due.is("addGear again", x.addGear(8, 3), 5);
    }

    private static void addGearAfterRemoval() {
        GearGauge x = new GearGauge();
        x.addGear(30, 2);
        x.fill(0, 5, 4000);
        x.addLine(0, 1);
        x.addPoint(0, 9);
        x.removeGear(0);
        Due.is("addGear in a used place", x.addGear(6, 1), 0);
        hasReadings("addGear in a used place", x, 0, 0, new int[7]);
        hasReadings("addGear in a used place", x, 0, 1, new int[7]);
        hasReadings("addGear in a used place", x, 0, 2, new int[6]);
        x.fill(0, 5, 4000);
        x.removeGear(0);
        x.addGear(30, 2);
        hasReadings("addGear of 30 teeth in a used place", x, 0, 0, new int[31]);
        hasReadings("addGear of 30 teeth in a used place", x, 0, 1, new int[31]);
        hasReadings("addGear of 30 teeth in a used place", x, 0, 2, new int[30]);
        Due.is("addLine in a used place", x.addLine(0, 0), 0);
        Due.is("addLine in a used place", x.line(0, 2), 0);
    }

    /** What stands beside a gear or line in a used place is not touched. */
    private static void usedPlacesAreApart() {
        GearGauge x = new GearGauge();
        for (int i = 0; i < 3; i++) {
            x.addGear(5 + i, 1);
            x.addLine(i, 0);
            x.addPoint(i, i);
        }
        x.removeLine(0);
        x.addLine(0, 1);
        x.addPoint(2, 50);
        Due.is("a line beside", x.line(1, 2), 1);
        Due.is("a line beside", x.point(1, 0), 2);
        Due.is("a line in a used place", x.point(2, 0), 50);
        x.removeGear(0);
        x.addGear(9, 2);
        x.fill(2, 3, 100);
        Due.is("a gear beside", x.gear(0, 0), 6);
        Due.is("a gear beside", x.gear(1, 0), 7);
        hasReadings("a gear beside", x, 1, 0, new int[8]);
        x.addGear(10, 2);
        Due.is("a gear in a used place", x.gear(2, 0), 9);
        Due.is("a gear behind", x.gear(3, 0), 10);
    }

    private static void removeGear() {
        GearGauge x = new GearGauge();
        for (int i = 0; i < 4; i++) {
            x.addGear(5 + i, 1 + i);
        }
        int[] owners = {2, 1, 3, 1, 0, 2, 1, 3};
        for (int i = 0; i < owners.length; i++) {
            x.addLine(owners[i], i % 2);
            x.addPoint(i, 100 + i);
        }
        x.setReading(2, 0, 1, 77);
        Due.throwing("removeGear -1", x, Due.BOUNDS, () -> x.removeGear(-1));
        Due.throwing("removeGear 4", x, Due.BOUNDS, () -> x.removeGear(4));
        Due.is("removeGear", x.removeGear(1), 3);
        Due.is("removeGear gears", x.gears(), 3);
        Due.is("removeGear lines", x.lines(), 5);
        int[] left = {1, 2, 0, 1, 2};
        int[] points = {100, 102, 104, 105, 107};
        for (int i = 0; i < left.length; i++) {
            Due.is("removeGear line " + i, x.line(i, 0), left[i]);
            Due.is("removeGear line " + i, x.line(i, 1), points[i] % 2);
            Due.is("removeGear line " + i, x.point(i, 0), points[i]);
        }
        Due.is("removeGear teeth", x.gear(0, 0), 5);
        Due.is("removeGear teeth", x.gear(1, 0), 7);
        Due.is("removeGear teeth", x.gear(2, 0), 8);
        Due.is("removeGear module", x.gear(2, 1), 4);
        Due.is("removeGear reading", x.reading(1, 0, 1), 77);
        Due.is("removeGear last", x.removeGear(2), 2);
        Due.is("removeGear undone", x.undo(), 3);
        Due.is("removeGear undone", x.undo(), 2);
        Due.is("removeGear undone", x.line(1, 0), 1);
        Due.is("removeGear undone", x.gear(1, 0), 6);
        Due.is("removeGear undone", x.gear(1, 2), 3);
        GearGauge bare = new GearGauge();
        bare.addGear(5, 1);
        Due.is("removeGear without lines", bare.removeGear(0), 0);
    }

    private static void setReading() {
        GearGauge x = new GearGauge();
        x.addGear(5, 1);
        x.addGear(6, 1);
        Due.is("setReading", x.setReading(0, 0, 5, 5000), 0);
        Due.is("setReading", x.setReading(0, 0, 5, -5000), 5000);
        Due.is("setReading", x.setReading(0, 1, 5, 3), 0);
        Due.is("setReading", x.setReading(0, 2, 4, 4), 0);
        Due.is("setReading", x.setReading(1, 0, 6, 6), 0);
        Due.is("setReading", x.setReading(0, 0, 5, -5000), -5000);
        hasReadings("setReading", x, 0, 0, 0, 0, 0, 0, 0, -5000);
        hasReadings("setReading", x, 0, 1, 0, 0, 0, 0, 0, 3);
        hasReadings("setReading", x, 0, 2, 0, 0, 0, 0, 4);
        hasReadings("setReading", x, 1, 0, 0, 0, 0, 0, 0, 0, 6);
        int[][] bounds = {{-1, 0, 0}, {2, 0, 0}, {0, -1, 0}, {0, 3, 0}, {0, 0, -1}, {0, 0, 6}, {0, 1, 6}, {0, 2, 5},
            {1, 2, 6}, {0, 0, Integer.MIN_VALUE}, {0, 2, Integer.MAX_VALUE}};
        for (int[] b : bounds) {
            Due.throwing("setReading nowhere", x, Due.BOUNDS, () -> x.setReading(b[0], b[1], b[2], 1));
            Due.throwing("setReading nowhere", x, Due.BOUNDS, () -> x.setReading(b[0], b[1], b[2], 5001));
        }
        Due.throwing("setReading 5001", x, Due.ARGUMENT, () -> x.setReading(0, 0, 0, 5001));
        Due.throwing("setReading -5001", x, Due.ARGUMENT, () -> x.setReading(0, 0, 0, -5001));
        Due.is("setReading undone", x.undo(), 3);
        Due.is("setReading undone, which changed nothing", x.reading(0, 0, 5), -5000);
        Due.is("setReading undone", x.undo(), 2);
        Due.is("setReading undone", x.reading(1, 0, 6), 0);
    }

    private static void fill() {
        GearGauge x = new GearGauge();
        x.addGear(5, 1);
        x.addGear(5, 1);
        // With the seed 1, s / 65536 is 16838, 5758, 10113, 17515, 31051, 5627, 23010, 7419, 16212, 4086, 2749,
        // 12767, 9084, 12060, 32225, 17543, 25089: the well-known numbers of this generator.
        Due.is("fill", x.fill(0, 1, 5000), 627 - 1837);
        hasReadings("fill", x, 0, 0, 1837, 758, -4888, 2514, -3952, 627);
        hasReadings("fill", x, 0, 1, -1992, 2419, 1211, -914, -2251, -2234);
        hasReadings("fill", x, 0, 2, 4084, -2941, -2778, 2542, 87);
        hasReadings("fill the other gear", x, 1, 0, new int[6]);
        Due.is("fill", x.fill(0, 1, 1), (5627 % 3 - 1) - (16838 % 3 - 1));
        Due.is("fill with 0", x.fill(0, 999999, 0), 0);
        hasReadings("fill with 0", x, 0, 1, new int[6]);
        x.fill(1, 0, 10);
        Due.is("fill from 0", x.reading(1, 0, 0), -10);
        Due.throwing("fill no gear", x, Due.BOUNDS, () -> x.fill(2, -1, 1));
        Due.throwing("fill no gear", x, Due.BOUNDS, () -> x.fill(-1, 1, 1));
        Due.throwing("fill seed -1", x, Due.ARGUMENT, () -> x.fill(0, -1, 1));
        Due.throwing("fill seed 1000000", x, Due.ARGUMENT, () -> x.fill(0, 1000000, 1));
        Due.throwing("fill spread -1", x, Due.ARGUMENT, () -> x.fill(0, 1, -1));
        Due.throwing("fill spread 5001", x, Due.ARGUMENT, () -> x.fill(0, 1, 5001));
        Due.throwing("fill spread far", x, Due.ARGUMENT, () -> x.fill(0, 1, Integer.MAX_VALUE));
        x.undo();
        hasReadings("fill undone", x, 1, 0, new int[6]);
        x.undo();
        x.undo();
        Due.is("fill undone", x.reading(0, 2, 4), 87);
    }

    private static void turn() {
        GearGauge x = new GearGauge();
        x.addGear(5, 7);
        x.addGear(5, 1);
        set(x, 0, 0, 1, 2, 4, 8, 16, 33);
        set(x, 0, 1, 0, 0, 0, 0, 7, -5);
        set(x, 0, 2, 1, 2, 3, 4, 5);
        Due.is("turn", x.turn(0, 2), 4);
        hasReadings("turn", x, 0, 0, 4, 8, 16, 33, 34, 36);
        hasReadings("turn", x, 0, 1, 0, 0, 7, -5, -5, -5);
        hasReadings("turn", x, 0, 2, 3, 4, 5, 1, 2);
        Due.is("turn by 0", x.turn(0, 0), 4);
        hasReadings("turn by 0", x, 0, 0, 4, 8, 16, 33, 34, 36);
        Due.is("turn by the last", x.turn(0, 4), 34);
        hasReadings("turn by the last", x, 0, 0, 34, 36, 40, 48, 65, 66);
        hasReadings("turn by the last", x, 0, 2, 2, 3, 4, 5, 1);
        hasReadings("turn the other gear", x, 1, 2, new int[5]);
        Due.is("turn leaves the teeth", x.gear(0, 0), 5);
        Due.is("turn leaves the module", x.gear(0, 1), 7);
        Due.is("turn undone", x.undo(), 3);
        Due.is("turn undone, which changed nothing", x.undo(), 2);
        Due.is("turn undone", x.undo(), 1);
        hasReadings("turn undone", x, 0, 0, 1, 2, 4, 8, 16, 33);
        hasReadings("turn undone", x, 0, 2, 1, 2, 3, 4, 5);
        int[][] bounds = {{-1, 0}, {2, 0}, {0, -1}, {0, 5}, {0, Integer.MIN_VALUE}, {0, Integer.MAX_VALUE}};
        for (int[] b : bounds) {
            Due.throwing("turn " + b[0] + ", " + b[1], x, Due.BOUNDS, () -> x.turn(b[0], b[1]));
        }
    }

    private static void turnAtTheLimit() {
        for (int flank = 0; flank < 2; flank++) {
            for (int sign = -1; sign <= 1; sign += 2) {
                GearGauge x = new GearGauge();
                int s = flank;
                x.addGear(5, 1);
                x.setReading(0, s, 5, sign * 5000);
                Due.is("turn up to the limit", x.turn(0, 1), 0);
                Due.is("turn up to the limit", x.reading(0, s, 4), sign * 5000);
                Due.is("turn up to the limit", x.reading(0, s, 5), sign * 5000);
                x.undo();
                x.setReading(0, s, 1, sign);
                Due.throwing("turn beyond, in reading z", x, Due.STATE, () -> x.turn(0, 1));
                Due.throwing("turn beyond, in a tooth", x, Due.STATE, () -> x.turn(0, 2));
                Due.throwing("turn beyond, no tooth", x, Due.BOUNDS, () -> x.turn(0, 5));
                Due.is("turn by 0", x.turn(0, 0), 0);
                x.setReading(0, s, 1, -sign);
                Due.is("turn within", x.turn(0, 1), s == 0 ? -sign : 0);
            }
        }
    }

    private static void gears() {
        GearGauge x = new GearGauge();
        for (int i = 0; i < 6; i++) {
            Due.is("gears", x.gears(), i);
            x.addGear(5, 1);
        }
        Due.is("gears", x.gears(), 6);
        x.removeGear(5);
        Due.is("gears", x.gears(), 5);
        x.undo();
        Due.is("gears", x.gears(), 6);
    }

    private static void gear() {
        GearGauge x = new GearGauge();
        x.addGear(30, 20);
        x.addGear(5, 1);
        set(x, 1, 0, 10, 0, 0, 0, 0, 12);
        set(x, 1, 1, 10, 0, 0, 0, 0, 7);
        x.setReading(1, 2, 0, 90);
        x.addLine(1, 0);
        x.addLine(0, 0);
        x.addLine(1, 1);
        int[] first = {30, 20, 1, 1, 0, 0};
        int[] second = {5, 1, 2, 6, 2, -3};
        for (int what = 0; what < 6; what++) {
            Due.is("gear 0, " + what, x.gear(0, what), first[what]);
            Due.is("gear 1, " + what, x.gear(1, what), second[what]);
        }
        Due.throwing("gear 2", x, Due.BOUNDS, () -> x.gear(2, 0));
        Due.throwing("gear 2, 6", x, Due.BOUNDS, () -> x.gear(2, 6));
        Due.throwing("gear -1", x, Due.BOUNDS, () -> x.gear(-1, 0));
        Due.throwing("gear 0, 6", x, Due.ARGUMENT, () -> x.gear(0, 6));
        Due.throwing("gear 0, -1", x, Due.ARGUMENT, () -> x.gear(0, -1));
    }

    private static void reading() {
        GearGauge x = new GearGauge();
        x.addGear(5, 1);
        x.setReading(0, 1, 5, -9);
        Due.is("reading", x.reading(0, 1, 5), -9);
        Due.is("reading", x.reading(0, 0, 5), 0);
        int[][] bounds = {{-1, 0, 0}, {1, 0, 0}, {0, -1, 0}, {0, 3, 0}, {0, 0, -1}, {0, 0, 6}, {0, 1, 6}, {0, 2, 5},
            {6, 0, 0}, {0, Integer.MAX_VALUE, 0}, {0, 0, Integer.MIN_VALUE}};
        for (int[] b : bounds) {
            Due.throwing("reading nowhere", x, Due.BOUNDS, () -> x.reading(b[0], b[1], b[2]));
        }
    }
}
