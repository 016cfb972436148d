import java.util.ArrayList;
import java.util.List;

/** What the tests of single sentences share: objects in known states, calls that are refused, calls that answer. */
final class Bounds {
    static final int LEAST = Integer.MIN_VALUE;
    static final int MOST = Integer.MAX_VALUE;

    interface Make {
        GearGauge made();
    }

    interface Call {
        Object on(GearGauge x);
    }

    interface CallWith {
        Object on(GearGauge x, int v);
    }

    private Bounds() {
    }

    // ---- states

    static final String TEXT = "g6,2;l1,2,3,4,5,6,7;p1,-2,3;";
    static final String TEXT_OF_160 = "g5,2;l-11,22,-33,44,-55,66;r12,-23,34,-45,56,-67;f-13,24,-35,46,-57;"
            + "p1,-2,3;h-4,05,-06;p0007,-8,9;h1,2,3,4,5,6,7,8,9,10,11,12;p-0001,0002,-0003,4444,-4999,4999;";

    /** Gears of 5, 30 and 7 teeth; lines of 3, 0, 2 and 12 points on the gears 0, 2, 1 and 2; 4 saved states. */
    static GearGauge worn() {
        GearGauge x = new GearGauge();
        x.addGear(5, 1);
        x.addGear(30, 20);
        x.addGear(7, 3);
        x.fill(0, 11, 300);
        x.fill(1, 12, 400);
        x.fill(2, 13, 50);
        LinePromisesTest.line(x, 0, 0, 4, -5, 9);
        LinePromisesTest.line(x, 2, 1);
        LinePromisesTest.line(x, 1, 1, 7, 8);
        LinePromisesTest.line(x, 2, 0, 1, 2, 4, 8, 16, 32, 64, 32, 16, 8, 4, 2);
        text(x, TEXT);
        x.setReading(0, 2, 0, 5);
        x.setReading(0, 2, 1, 6);
        return x;
    }

    /** The same with 2 saved states. */
    static GearGauge rich() {
        GearGauge x = worn();
        x.undo();
        x.undo();
        return x;
    }

    /** 6 gears, 10 lines, 12 points on the line 0, 160 bytes, 4 saved states. */
    static GearGauge full() {
        GearGauge x = new GearGauge();
        int[] teeth = {5, 6, 7, 30, 8, 5};
        for (int i = 0; i < 6; i++) {
            x.addGear(teeth[i], 1 + 3 * i);
            x.fill(i, 20 + i, 60);
        }
        LinePromisesTest.line(x, 1, 0, 3, 1, 4, 1, 5, 9, 2, 6, 5, 3, 5, 8);
        LinePromisesTest.line(x, 5, 1, 2, 7, 1);
        for (int i = 2; i < 10; i++) {
            x.addLine(i % 6, i % 2);
        }
        text(x, TEXT_OF_160);
        return x;
    }

    static GearGauge gears(int... teeth) {
        GearGauge x = new GearGauge();
        for (int z : teeth) {
            x.addGear(z, 1);
        }
        return x;
    }

    static void text(GearGauge x, String text) {
        for (int i = 0; i < text.length(); i++) {
            x.append(text.charAt(i));
        }
    }

    // ---- what can be told of an object

    /** All that later calls can tell: the state, the saved states behind it and the text. */
    static List<Object> trace(GearGauge x) {
        List<Object> seen = new ArrayList<>();
        seen.add(x.digest());
        for (int i = 0; i < 5; i++) {
            seen.add(Due.outcome(() -> x.undo()));
            seen.add(x.digest());
        }
        while (x.gears() > 0) {
            x.removeGear(0);
        }
        seen.add(x.parse());
        seen.add(x.digest());
        seen.add(x.clearText());
        return seen;
    }

    /** All readings, lines and points, as the calls for them answer; for gears of few teeth. */
    static List<Object> contents(GearGauge x) {
        List<Object> seen = new ArrayList<>();
        for (int g = 0; g < x.gears(); g++) {
            int z = x.gear(g, 0);
            seen.add("gear " + g + " of " + z + " teeth, module " + x.gear(g, 1));
            for (int series = 0; series < 3; series++) {
                for (int i = 0; i < (series == 2 ? z : z + 1); i++) {
                    seen.add(x.reading(g, series, i));
                }
            }
        }
        for (int l = 0; l < x.lines(); l++) {
            seen.add("line " + l + " of gear " + x.line(l, 0) + ", kind " + x.line(l, 1));
            for (int i = 0; i < x.line(l, 2); i++) {
                seen.add(x.point(l, i));
            }
        }
        return seen;
    }

    // ---- numbers

    /** Round(p / q) as the document tells it: the nearest whole number, the greater one of two. */
    static int round(long p, long q) {
        long best = p / q - 2;
        for (long n = p / q - 1; n <= p / q + 2; n++) {
            if (Math.abs(p - n * q) <= Math.abs(p - best * q)) {
                best = n;
            }
        }
        return (int) best;
    }

    /** The index deviations 0 to z of a flank, from the readings. */
    static int[] indices(GearGauge x, int gear, int flank) {
        int z = x.gear(gear, 0);
        int first = x.reading(gear, flank, 0);
        int closing = x.reading(gear, flank, z) - first;
        int[] all = new int[z + 1];
        for (int i = 0; i <= z; i++) {
            all[i] = x.reading(gear, flank, i) - first - round((long) closing * i, z);
        }
        return all;
    }

    static int range(int[] all) {
        int most = all[0];
        int least = all[0];
        for (int v : all) {
            most = Math.max(most, v);
            least = Math.min(least, v);
        }
        return most - least;
    }

    // ---- refused calls

    /** The call throws just this, and the object cannot be told from a twin without the call. */
    static void refused(String name, Class<?> want, Make make, Call call) {
        GearGauge x = make.made();
        GearGauge twin = make.made();
        Due.is(name, Due.outcome(() -> call.on(x)), want.getName());
        Due.is(name + " changes nothing", trace(x), trace(twin));
    }

    static void refused(Class<?> want, Make make, CallWith call, int... values) {
        for (int v : values) {
            refused("with " + v, want, make, x -> call.on(x, v));
        }
    }

    /** The range of an argument: both ends are taken, what is just beyond and far away is refused. */
    static void range(Class<?> want, Make make, CallWith call, int from, int to) {
        taken(make, call, from, to);
        refused(want, make, call, from - 1, to + 1, LEAST, MOST, from - 1000000, to + 1000000);
    }

    static void taken(Make make, CallWith call, int... values) {
        for (int v : values) {
            GearGauge x = make.made();
            Object got = Due.outcome(() -> call.on(x, v));
            Due.is("with " + v + " answers " + got, got instanceof String, false);
        }
    }

    /** The number of a gear: in a state of three gears, of six and of none. */
    static void gearNumber(CallWith call) {
        range(Due.BOUNDS, Bounds::rich, call, 0, 2);
        refused(Due.BOUNDS, Bounds::rich, call, 5, 6);
        range(Due.BOUNDS, Bounds::full, call, 0, 5);
        refused(Due.BOUNDS, GearGauge::new, call, 0, -1, 1);
    }

    /** The number of a line: in a state of four lines, of ten, of a gear without lines and of none. */
    static void lineNumber(CallWith call) {
        range(Due.BOUNDS, Bounds::rich, call, 0, 3);
        refused(Due.BOUNDS, Bounds::rich, call, 9, 10);
        range(Due.BOUNDS, Bounds::full, call, 0, 9);
        refused(Due.BOUNDS, () -> gears(5), call, 0, -1, 1);
        refused(Due.BOUNDS, GearGauge::new, call, 0);
    }

    // ---- calls that answer

    /** The call answers this, and changes nothing. */
    static void answers(String name, Make make, Call call, Object want) {
        GearGauge x = make.made();
        Due.is(name, Due.outcome(() -> call.on(x)), want);
        Due.is(name + " changes nothing", trace(x), trace(make.made()));
    }

    /** The call saves the state from before: undo brings back just that, and not the text. */
    static void undoable(Call call) {
        GearGauge x = rich();
        call.on(x);
        Due.is("saved states", x.undo(), 2);
        Due.is("all is as before", trace(x), trace(rich()));
        GearGauge y = worn();
        GearGauge twin = worn();
        call.on(y);
        // The oldest state has been dropped; a digest ends with the number of saved states.
        for (int left = 3; left > 0; left--) {
            Due.is("saved states of 4", y.undo(), left);
            Due.is("the state before it", y.digest() + 1, twin.digest());
            twin.undo();
        }
        Due.is("the last saved state", y.undo(), 0);
        Due.is("the last state before it", y.digest() + 1, twin.digest());
        Due.is("no more saved states", Due.outcome(() -> y.undo()), Due.STATE.getName());
    }
}
