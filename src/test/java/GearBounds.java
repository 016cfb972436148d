import java.util.ArrayList;
import java.util.List;

/** Sentences about gears and their readings: promises 1 to 9, and what the description says of them. */
final class GearBounds {
    private GearBounds() {
    }

    static void all() {
        description();
        newObject();
        addGear();
        removeGear();
        setReading();
        fill();
        turn();
        turnBeyond();
        gears();
        gear();
        reading();
    }

    private static void description() {
        Sentences.section("Description");
        Sentences.test("There are at most 6 gears, numbered from 0.", () -> {
            GearGauge x = new GearGauge();
            for (int i = 0; i < 6; i++) {
                Due.is("number", x.addGear(10 + i, 1), i);
            }
            for (int i = 0; i < 6; i++) {
                Due.is("teeth of gear " + i, x.gear(i, 0), 10 + i);
            }
            Bounds.refused("a seventh", Due.STATE, Bounds::full, y -> y.addGear(5, 1));
        });
        Sentences.test("A gear has z teeth, 5 to 30, numbered from 0, and a module m, 1 to 20.", () -> {
            for (int z = 5; z <= 30; z++) {
                for (int m = 1; m <= 20; m++) {
                    GearGauge x = new GearGauge();
                    x.addGear(z, m);
                    Due.is("teeth of " + z + ", " + m, x.gear(0, 0), z);
                    Due.is("module of " + z + ", " + m, x.gear(0, 1), m);
                    Due.is("tooth 0", x.thickness(0, 0), 0);
                    Due.is("the last tooth", x.thickness(0, z - 1), 0);
                    Due.is("a tooth behind it", Due.outcome(() -> x.thickness(0, x.gear(0, 0))),
                            Due.BOUNDS.getName());
                }
            }
        });
        Sentences.test("It has three series of readings, all initially 0: ..", () -> {
            for (int z : new int[] {5, 6, 29, 30}) {
                GearGauge x = Bounds.gears(z);
                GearPromisesTest.hasReadings("left of " + z, x, 0, 0, new int[z + 1]);
                GearPromisesTest.hasReadings("right of " + z, x, 0, 1, new int[z + 1]);
                GearPromisesTest.hasReadings("radial of " + z, x, 0, 2, new int[z]);
            }
        });
        Sentences.test("It has three series of readings, all initially 0: ..", "the reading z is not that of tooth 0", () -> {
            for (int flank = 0; flank < 2; flank++) {
                GearGauge x = Bounds.gears(5);
                x.setReading(0, flank, 0, 3);
                Due.is("reading z", x.reading(0, flank, 5), 0);
                x.setReading(0, flank, 5, 4);
                Due.is("reading 0", x.reading(0, flank, 0), 3);
                Due.is("reading z", x.reading(0, flank, 5), 4);
            }
        });
        Sentences.test("Readings are -5000 to 5000.", () -> {
            for (int series = 0; series < 3; series++) {
                int s = series;
                Bounds.range(Due.ARGUMENT, Bounds::rich, (x, v) -> x.setReading(0, s, 4, v), -5000, 5000);
                GearGauge x = Bounds.gears(5);
                x.setReading(0, s, 4, 5000);
                Due.is("the greatest", x.reading(0, s, 4), 5000);
                x.setReading(0, s, 4, -5000);
                Due.is("the smallest", x.reading(0, s, 4), -5000);
            }
        });
    }

    private static void newObject() {
        Sentences.section("Promise 1: A new object");
        Sentences.test("Creates a gauge without gears and lines.", () -> {
            GearGauge x = new GearGauge();
            Due.is("gears", x.gears(), 0);
            Due.is("lines", x.lines(), 0);
            Due.is("text", x.clearText(), 0);
            Due.is("text", x.parse(), 0);
            Due.is("what parse saved", x.undo(), 0);
            Due.is("digest", x.digest(), 2963L * 31 * 31 * 31 * 31);
            Due.is("no saved state", Due.outcome(() -> x.undo()), Due.STATE.getName());
            Due.is("gear", Due.outcome(() -> x.gear(0, 0)), Due.BOUNDS.getName());
            Due.is("line", Due.outcome(() -> x.line(0, 0)), Due.BOUNDS.getName());
        });
        Sentences.test("Creates a gauge without gears and lines.", "another object has nothing of it", () -> {
            GearGauge full = Bounds.full();
            Due.is("a new one", Bounds.trace(new GearGauge()), Bounds.trace(new GearGauge()));
            GearGauge other = new GearGauge();
            other.addGear(5, 1);
            other.addLine(0, 0);
            Due.is("the full one", Bounds.trace(full), Bounds.trace(Bounds.full()));
        });
    }

    private static void addGear() {
        Sentences.section("Promise 2: addGear");
        Sentences.test("Adds a gear whose readings are all 0.", () -> {
            GearGauge x = Bounds.gears(5, 5);
            x.fill(0, 7, 900);
            x.fill(1, 8, 900);
            List<Object> before = Bounds.contents(x);
            x.addGear(6, 2);
            Due.is("the gears before it", Bounds.contents(x).subList(0, before.size()), before);
            GearPromisesTest.hasReadings("left", x, 2, 0, new int[7]);
            GearPromisesTest.hasReadings("right", x, 2, 1, new int[7]);
            GearPromisesTest.hasReadings("radial", x, 2, 2, new int[6]);
        });
        Sentences.test("Adds a gear whose readings are all 0.", "where a gear has been before", () -> {
            for (int way = 0; way < 3; way++) {
                GearGauge x = Bounds.gears(30);
                x.fill(0, 5, 4000);
                x.addGear(30, 2);
                x.fill(1, 6, 4000);
                if (way == 0) {
                    x.removeGear(1);
                } else if (way == 1) {
                    x.removeGear(0);
                } else {
                    x.undo();
                    x.undo();
                }
                Due.is("number", x.addGear(30, 3), 1);
                for (int series = 0; series < 3; series++) {
                    GearPromisesTest.hasReadings("way " + way, x, 1, series, new int[series == 2 ? 30 : 31]);
                }
            }
        });
        Sentences.test("Undoable.", () -> Bounds.undoable(x -> x.addGear(9, 4)));
        Sentences.test("- `teeth`: 5 to 30", () ->
                Bounds.range(Due.ARGUMENT, Bounds::rich, (x, v) -> x.addGear(v, 3), 5, 30));
        Sentences.test("- `module`: 1 to 20", () ->
                Bounds.range(Due.ARGUMENT, Bounds::rich, (x, v) -> x.addGear(11, v), 1, 20));
        Sentences.test("Returns the number of the gear.", () -> {
            GearGauge x = new GearGauge();
            for (int i = 0; i < 6; i++) {
                Due.is("number", x.addGear(5, 1), i);
            }
            x.removeGear(0);
            x.removeGear(0);
            Due.is("number after removals", x.addGear(5, 1), 4);
            Due.is("number after removals", x.addGear(5, 1), 5);
            x.undo();
            Due.is("number after undo", x.addGear(5, 1), 5);
        });
        Sentences.test("Throws `IllegalArgumentException` if an argument is out of range", () -> {
            int[][] wrong = {{4, 1}, {31, 1}, {5, 0}, {30, 21}, {4, 0}, {31, 21}, {0, 0}, {Bounds.LEAST, Bounds.LEAST},
                {Bounds.MOST, Bounds.MOST}, {1, 5}, {20, 30}};
            for (int[] w : wrong) {
                Bounds.refused(w[0] + ", " + w[1], Due.ARGUMENT, GearGauge::new, x -> x.addGear(w[0], w[1]));
                Bounds.refused(w[0] + ", " + w[1] + " and no room", Due.ARGUMENT, Bounds::full,
                        x -> x.addGear(w[0], w[1]));
            }
        });
        Sentences.test("Throws `IllegalStateException` if there are 6 gears", () -> {
            GearGauge x = Bounds.gears(5, 5, 5, 5, 5);
            Due.is("the sixth", x.addGear(30, 20), 5);
            Bounds.refused("a seventh", Due.STATE, Bounds::full, y -> y.addGear(30, 20));
            x.removeGear(3);
            Due.is("a sixth again", x.addGear(5, 1), 5);
            x.undo();
            x.undo();
            Due.is("six again", Due.outcome(() -> x.addGear(5, 1)), Due.STATE.getName());
        });
    }

    /** Six gears of 5 to 10 teeth; line i has the one point 100 + i. */
    private static GearGauge owned(int... owners) {
        GearGauge x = Bounds.gears(5, 6, 7, 8, 9, 10);
        for (int i = 0; i < owners.length; i++) {
            x.addLine(owners[i], i % 2);
            x.addPoint(i, 100 + i);
        }
        return x;
    }

    private static void removeGear() {
        Sentences.section("Promise 3: removeGear");
        int[][] allOwners = {{0, 1, 2, 3, 4, 5, 0, 1, 2, 3}, {5, 4, 3, 2, 1, 0, 5, 4, 3, 2}, {2, 2, 2, 2, 2, 2, 2, 2, 2, 2},
            {0, 0, 5, 5, 0, 0, 5, 5, 0, 5}, {}, {3}};
        Sentences.test("Removes a gear with its lines; ..", () -> {
            for (int[] owners : allOwners) {
                for (int gear = 0; gear < 6; gear++) {
                    GearGauge x = owned(owners);
                    x.removeGear(gear);
                    List<Integer> left = new ArrayList<>();
                    for (int i = 0; i < owners.length; i++) {
                        if (owners[i] != gear) {
                            left.add(i);
                        }
                    }
                    Due.is("gears", x.gears(), 5);
                    for (int g = 0; g < 5; g++) {
                        Due.is("teeth of gear " + g + " without " + gear, x.gear(g, 0), 5 + (g < gear ? g : g + 1));
                    }
                    Due.is("lines", x.lines(), left.size());
                    for (int l = 0; l < left.size(); l++) {
                        int was = left.get(l);
                        Due.is("line " + l, x.point(l, 0), 100 + was);
                        Due.is("kind of line " + l, x.line(l, 1), was % 2);
                        Due.is("gear of line " + l, x.line(l, 0), owners[was] > gear ? owners[was] - 1 : owners[was]);
                    }
                }
            }
        });
        Sentences.test("Removes a gear with its lines; ..", "the last gear of all", () -> {
            GearGauge x = Bounds.gears(5);
            x.addLine(0, 0);
            x.removeGear(0);
            Due.is("gears", x.gears(), 0);
            Due.is("lines", x.lines(), 0);
            Due.is("none to be removed", Due.outcome(() -> x.removeGear(0)), Due.BOUNDS.getName());
        });
        Sentences.test("Undoable.", () -> {
            for (int gear = 0; gear < 3; gear++) {
                int g = gear;
                Bounds.undoable(x -> x.removeGear(g));
            }
        });
        Sentences.test("- `gear`: number of a gear", () -> Bounds.gearNumber((x, v) -> x.removeGear(v)));
        Sentences.test("Returns the number of lines that were removed.", () -> {
            for (int[] owners : allOwners) {
                for (int gear = 0; gear < 6; gear++) {
                    int lines = 0;
                    for (int owner : owners) {
                        lines += owner == gear ? 1 : 0;
                    }
                    Due.is("lines of gear " + gear, owned(owners).removeGear(gear), lines);
                }
            }
        });
        Sentences.test("Throws `IndexOutOfBoundsException` if there is no such gear", () -> {
            Bounds.refused("none", Due.BOUNDS, GearGauge::new, x -> x.removeGear(0));
            Bounds.refused("behind the last", Due.BOUNDS, () -> Bounds.gears(5, 5), x -> x.removeGear(2));
            Bounds.refused("NONE", Due.BOUNDS, Bounds::full, x -> x.removeGear(GearGauge.NONE));
            Bounds.refused("the seventh", Due.BOUNDS, Bounds::full, x -> x.removeGear(6));
        });
    }

    private static void setReading() {
        Sentences.section("Promise 4: setReading");
        Sentences.test("Sets a reading.", () -> {
            for (int series = 0; series < 3; series++) {
                for (int i = 0; i < (series == 2 ? 5 : 6); i++) {
                    GearGauge x = Bounds.gears(5, 5);
                    x.fill(0, 3, 99);
                    x.fill(1, 4, 99);
                    List<Object> due = Bounds.contents(x);
                    due.set(1 + 6 * series + i, 1000);
                    x.setReading(0, series, i, 1000);
                    Due.is("all readings behind " + series + ", " + i, Bounds.contents(x), due);
                }
            }
        });
        Sentences.test("Undoable.", () -> {
            Bounds.undoable(x -> x.setReading(1, 0, 30, 17));
            Bounds.undoable(x -> x.setReading(0, 1, 0, 17));
            Bounds.undoable(x -> x.setReading(2, 2, 6, x.reading(2, 2, 6)));
        });
        Sentences.test("- `gear`: number of a gear", () -> Bounds.gearNumber((x, v) -> x.setReading(v, 0, 0, 1)));
        Sentences.test("- `series`: 0 to 2", () ->
                Bounds.range(Due.BOUNDS, Bounds::rich, (x, v) -> x.setReading(1, v, 0, 1), 0, 2));
        Sentences.test("- `index`: index of the reading, 0 to teeth (series 2: to teeth - 1)", () -> {
            for (int flank = 0; flank < 2; flank++) {
                int f = flank;
                Bounds.range(Due.BOUNDS, Bounds::rich, (x, v) -> x.setReading(0, f, v, 1), 0, 5);
                Bounds.range(Due.BOUNDS, Bounds::rich, (x, v) -> x.setReading(1, f, v, 1), 0, 30);
            }
            Bounds.range(Due.BOUNDS, Bounds::rich, (x, v) -> x.setReading(0, 2, v, 1), 0, 4);
            Bounds.range(Due.BOUNDS, Bounds::rich, (x, v) -> x.setReading(1, 2, v, 1), 0, 29);
        });
        Sentences.test("- `value`: -5000 to 5000", () ->
                Bounds.range(Due.ARGUMENT, Bounds::full, (x, v) -> x.setReading(3, 0, 30, v), -5000, 5000));
        Sentences.test("Returns the previous reading.", () -> {
            GearGauge x = Bounds.gears(5);
            for (int series = 0; series < 3; series++) {
                int last = series == 2 ? 4 : 5;
                Due.is("the first", x.setReading(0, series, last, -5000), 0);
                Due.is("the least", x.setReading(0, series, last, 5000), -5000);
                Due.is("the greatest", x.setReading(0, series, last, 7), 5000);
                Due.is("the same", x.setReading(0, series, last, 7), 7);
                x.undo();
                x.undo();
                Due.is("behind undo", x.setReading(0, series, last, 1), 5000);
            }
        });
        Sentences.test("Throws `IndexOutOfBoundsException` if there is no such gear, series or reading", () -> {
            int[][] wrong = {{-1, 0, 0}, {3, 0, 0}, {0, -1, 0}, {0, 3, 0}, {0, 0, -1}, {0, 0, 6}, {0, 1, 6}, {0, 2, 5},
                {3, 3, 99}, {Bounds.LEAST, 0, 0}, {0, Bounds.MOST, 0}, {0, 2, Bounds.LEAST}, {0, 0, Bounds.MOST}};
            for (int[] w : wrong) {
                for (int value : new int[] {0, 5000, 5001, -5001, Bounds.LEAST, Bounds.MOST}) {
                    Bounds.refused(w[0] + ", " + w[1] + ", " + w[2] + ", " + value, Due.BOUNDS, Bounds::rich,
                            x -> x.setReading(w[0], w[1], w[2], value));
                }
            }
        });
        Sentences.test("Throws `IllegalArgumentException` if value is out of range", () -> {
            for (int value : new int[] {5001, -5001, Bounds.LEAST, Bounds.MOST}) {
                for (int series = 0; series < 3; series++) {
                    int s = series;
                    Bounds.refused(s + ", " + value, Due.ARGUMENT, Bounds::rich, x -> x.setReading(0, s, 0, value));
                    Bounds.refused(s + ", " + value, Due.ARGUMENT, Bounds::full, x -> x.setReading(5, s, 4, value));
                }
            }
        });
    }

    /** The readings of a series, by the generator as the document tells it. */
    private static int[] filled(int teeth, int series, int seed, int spread) {
        int[] sizes = {teeth + 1, teeth + 1, teeth};
        int[] row = new int[0];
        long s = seed;
        for (int i = 0; i <= series; i++) {
            row = new int[sizes[i]];
            for (int k = 0; k < row.length; k++) {
                s = (1103515245L * s + 12345) % 2147483648L;
                row[k] = (int) (s / 65536 % (2 * spread + 1)) - spread;
            }
        }
        return row;
    }

    private static void hasFilled(int teeth, int seed, int spread) {
        GearGauge x = Bounds.gears(5, teeth, 5);
        int closing = x.fill(1, seed, spread);
        for (int series = 0; series < 3; series++) {
            GearPromisesTest.hasReadings(seed + ", " + spread, x, 1, series, filled(teeth, series, seed, spread));
            GearPromisesTest.hasReadings("the gear before", x, 0, series, new int[series == 2 ? 5 : 6]);
            GearPromisesTest.hasReadings("the gear behind", x, 2, series, new int[series == 2 ? 5 : 6]);
        }
        int[] left = filled(teeth, 0, seed, spread);
        Due.is("closing error", closing, left[teeth] - left[0]);
    }

    private static void fill() {
        Sentences.section("Promise 5: fill");
        Sentences.test("Fills the series 0 to 2 of a gear with pseudo-random readings.", () -> {
            hasFilled(5, 17, 100);
            hasFilled(30, 17, 100);
            GearGauge x = Bounds.rich();
            x.fill(0, 17, 100);
            GearPromisesTest.hasReadings("over other readings", x, 0, 2, filled(5, 2, 17, 100));
        });
        Sentences.test("There is a number s, which is the seed at first; "
                + "a step makes it (1103515245 * s + 12345) modulo 2147483648.", () -> {
            GearGauge x = Bounds.gears(5);
            x.fill(0, 0, 5000);
            // From 0 the first s is 12345, and the second one 1406932606.
            Due.is("the first", x.reading(0, 0, 0), -5000);
            Due.is("the second", x.reading(0, 0, 1), 1406932606 / 65536 % 10001 - 5000);
            x.fill(0, 1, 5000);
            Due.is("the first from 1", x.reading(0, 0, 0), 1103527590 / 65536 % 10001 - 5000);
            // The greatest seed makes the greatest product: 1103514141497100 and some, far beyond an int.
            x.fill(0, 999999, 5000);
            int first = (int) ((1103515245L * 999999 + 12345) % 2147483648L);
            Due.is("the first from 999999", x.reading(0, 0, 0), first / 65536 % 10001 - 5000);
        });
        Sentences.test("For each series in order and each reading in order a step is done, ..", () -> {
            for (int teeth : new int[] {5, 6, 30}) {
                for (int seed : new int[] {0, 1, 12345, 999998, 999999}) {
                    for (int spread : new int[] {0, 1, 2, 4999, 5000}) {
                        hasFilled(teeth, seed, spread);
                    }
                }
            }
        });
        Sentences.test("For each series in order and each reading in order a step is done, ..", "both ends", () -> {
            boolean least = false;
            boolean most = false;
            for (int seed = 0; seed < 200; seed++) {
                GearGauge x = Bounds.gears(5);
                x.fill(0, seed, 1);
                for (int i = 0; i < 6; i++) {
                    least |= x.reading(0, 1, i) == -1;
                    most |= x.reading(0, 1, i) == 1;
                    Due.is("within the spread", Math.abs(x.reading(0, 1, i)) <= 1, true);
                }
            }
            Due.is("-spread comes", least, true);
            Due.is("spread comes", most, true);
        });
        Sentences.test("Undoable.", () -> {
            Bounds.undoable(x -> x.fill(1, 4, 77));
            Bounds.undoable(x -> x.fill(1, 12, 400));
        });
        Sentences.test("- `gear`: number of a gear", () -> Bounds.gearNumber((x, v) -> x.fill(v, 1, 9)));
        Sentences.test("- `seed`: 0 to 999999", () ->
                Bounds.range(Due.ARGUMENT, Bounds::rich, (x, v) -> x.fill(0, v, 9), 0, 999999));
        Sentences.test("- `spread`: 0 to 5000", () ->
                Bounds.range(Due.ARGUMENT, Bounds::rich, (x, v) -> x.fill(0, 1, v), 0, 5000));
        Sentences.test("Returns the closing error of series 0 then.", () -> {
            GearGauge x = Bounds.gears(5, 30);
            for (int seed = 0; seed < 20; seed++) {
                for (int gear = 0; gear < 2; gear++) {
                    int closing = x.fill(gear, seed, 5000);
                    int last = x.gear(gear, 0);
                    Due.is("seed " + seed, closing, x.reading(gear, 0, last) - x.reading(gear, 0, 0));
                }
            }
            Due.is("with spread 0", x.fill(0, 5, 0), 0);
        });
        Sentences.test("Throws `IndexOutOfBoundsException` if there is no such gear", () -> {
            int[][] wrong = {{-1, 0, 0}, {3, 0, 0}, {3, -1, 0}, {3, 0, 5001}, {-1, 1000000, -1}, {Bounds.LEAST, 0, 0},
                {Bounds.MOST, Bounds.MOST, Bounds.MOST}};
            for (int[] w : wrong) {
                Bounds.refused(w[0] + ", " + w[1] + ", " + w[2], Due.BOUNDS, Bounds::rich,
                        x -> x.fill(w[0], w[1], w[2]));
            }
            Bounds.refused("no gear at all", Due.BOUNDS, GearGauge::new, x -> x.fill(0, 0, 0));
        });
        Sentences.test("Throws `IllegalArgumentException` if seed or spread is out of range", () -> {
            int[][] wrong = {{-1, 0}, {1000000, 0}, {0, -1}, {0, 5001}, {-1, -1}, {1000000, 5001}, {-1, 5000},
                {999999, -1}, {Bounds.LEAST, 0}, {0, Bounds.LEAST}, {Bounds.MOST, 0}, {0, Bounds.MOST}};
            for (int[] w : wrong) {
                Bounds.refused(w[0] + ", " + w[1], Due.ARGUMENT, Bounds::rich, x -> x.fill(2, w[0], w[1]));
                Bounds.refused(w[0] + ", " + w[1], Due.ARGUMENT, Bounds::full, x -> x.fill(5, w[0], w[1]));
            }
        });
    }

    /** Left 0, 10, 20, 30, 40 and 57 at the end; right -1, -2, -3, -4, -5 and -11; radial 1 to 5. */
    private static GearGauge turnable() {
        GearGauge x = Bounds.gears(7, 5, 7);
        x.fill(0, 1, 9);
        x.fill(2, 2, 9);
        GearPromisesTest.set(x, 1, 0, 0, 10, 20, 30, 40, 57);
        GearPromisesTest.set(x, 1, 1, -1, -2, -3, -4, -5, -11);
        GearPromisesTest.set(x, 1, 2, 1, 2, 3, 4, 5);
        return x;
    }

    private static void turn() {
        Sentences.section("Promise 6: turn");
        int[][] left = {{0, 10, 20, 30, 40, 57}, {10, 20, 30, 40, 57, 67}, {20, 30, 40, 57, 67, 77},
            {30, 40, 57, 67, 77, 87}, {40, 57, 67, 77, 87, 97}};
        int[][] right = {{-1, -2, -3, -4, -5, -11}, {-2, -3, -4, -5, -11, -12}, {-3, -4, -5, -11, -12, -13},
            {-4, -5, -11, -12, -13, -14}, {-5, -11, -12, -13, -14, -15}};
        int[][] radial = {{1, 2, 3, 4, 5}, {2, 3, 4, 5, 1}, {3, 4, 5, 1, 2}, {4, 5, 1, 2, 3}, {5, 1, 2, 3, 4}};
        Sentences.test("Turns a gear on the gauge: ..", () -> {
            for (int k = 0; k < 5; k++) {
                GearGauge x = turnable();
                List<Object> due = Bounds.contents(x);
                x.turn(1, k);
                for (int i = 0; i < 6; i++) {
                    due.set(25 + i, left[k][i]);
                    due.set(31 + i, right[k][i]);
                    if (i < 5) {
                        due.set(37 + i, radial[k][i]);
                    }
                }
                Due.is("all readings, turned by " + k, Bounds.contents(x), due);
                Due.is("closing error of series 0", x.gear(1, 4), 57);
                Due.is("closing error of series 1", x.gear(1, 5), -10);
            }
        });
        Sentences.test("Turns a gear on the gauge: ..", "a whole turn in two", () -> {
            for (int z : new int[] {5, 6, 30}) {
                for (int k = 1; k < z; k++) {
                    GearGauge x = Bounds.gears(z);
                    x.fill(0, 9 + k, 1000);
                    GearGauge y = Bounds.gears(z);
                    y.fill(0, 9 + k, 1000);
                    x.turn(0, k);
                    x.turn(0, z - k);
                    for (int i = 0; i <= z; i++) {
                        Due.is("left " + i, x.reading(0, 0, i), y.reading(0, 0, i) + y.gear(0, 4));
                        Due.is("right " + i, x.reading(0, 1, i), y.reading(0, 1, i) + y.gear(0, 5));
                        if (i < z) {
                            Due.is("radial " + i, x.reading(0, 2, i), y.reading(0, 2, i));
                        }
                    }
                }
            }
        });
        Sentences.test("Undoable.", () -> {
            Bounds.undoable(x -> x.turn(0, 1));
            Bounds.undoable(x -> x.turn(2, 6));
            Bounds.undoable(x -> x.turn(1, 0));
        });
        Sentences.test("- `gear`: number of a gear", () -> Bounds.gearNumber((x, v) -> x.turn(v, 0)));
        Sentences.test("- `k`: 0 to teeth - 1", () -> {
            Bounds.range(Due.BOUNDS, Bounds::rich, (x, v) -> x.turn(0, v), 0, 4);
            Bounds.range(Due.BOUNDS, Bounds::rich, (x, v) -> x.turn(1, v), 0, 29);
        });
        Sentences.test("Returns the new reading of tooth 0 in series 0.", () -> {
            for (int k = 0; k < 5; k++) {
                GearGauge x = turnable();
                Due.is("turned by " + k, x.turn(1, k), 10 * k);
                Due.is("reading of tooth 0", x.reading(1, 0, 0), 10 * k);
            }
        });
        Sentences.test("Throws `IndexOutOfBoundsException` if there is no such gear or tooth", () -> {
            int[][] wrong = {{-1, 0}, {3, 0}, {3, 5}, {0, -1}, {0, 5}, {1, 30}, {2, 7}, {0, Bounds.LEAST},
                {0, Bounds.MOST}, {Bounds.LEAST, 0}, {Bounds.MOST, 0}};
            for (int[] w : wrong) {
                Bounds.refused(w[0] + ", " + w[1], Due.BOUNDS, Bounds::rich, x -> x.turn(w[0], w[1]));
            }
            // Here each turn but that by 0 is beyond the readings, too.
            for (int k : new int[] {-1, 5, 6, Bounds.LEAST, Bounds.MOST}) {
                Bounds.refused("k " + k, Due.BOUNDS, () -> atTheLimit(0, 1, 1), x -> x.turn(0, k));
            }
        });
    }

    /** Closing error 5000 * sign on a flank; tooth 1 reads one, all others 0. */
    private static GearGauge atTheLimit(int flank, int sign, int one) {
        GearGauge x = Bounds.gears(5);
        x.setReading(0, flank, 5, 5000 * sign);
        x.setReading(0, flank, 1, one);
        return x;
    }

    private static void turnBeyond() {
        String words = "Throws `IllegalStateException` if a reading would be beyond -5000 to 5000";
        for (int i = 0; i < 4; i++) {
            int flank = i / 2;
            int sign = i % 2 == 0 ? 1 : -1;
            Sentences.test(words, "flank " + flank + ", towards " + sign * 5000, () -> {
                GearGauge within = atTheLimit(flank, sign, 0);
                within.turn(0, 1);
                Due.is("just within", within.reading(0, flank, 4), 5000 * sign);
                Due.is("just within", within.reading(0, flank, 5), 5000 * sign);
                // Turned by 1 it is reading z that would be beyond, by 2 to 4 it is a tooth, too.
                for (int k = 1; k < 5; k++) {
                    int by = k;
                    Bounds.refused("just beyond, turned by " + k, Due.STATE, () -> atTheLimit(flank, sign, sign),
                            x -> x.turn(0, by));
                }
                Bounds.answers("turned by 0", () -> {
                    GearGauge x = atTheLimit(flank, sign, sign);
                    x.turn(0, 0);
                    return x;
                }, x -> x.reading(0, flank, 1), sign);
            });
        }
        Sentences.test(words, "only reading z, or only a tooth below k", () -> {
            for (int k = 1; k < 5; k++) {
                int by = k;
                for (int tooth = 0; tooth < 5; tooth++) {
                    GearGauge x = Bounds.gears(5);
                    x.setReading(0, 0, 5, 1);
                    x.setReading(0, 0, tooth, 5000);
                    if (tooth == 0) {
                        // A closing error of 1 needs the reading 5001, so the greatest that there is is -1.
                        x.setReading(0, 0, 5, 4999);
                    }
                    boolean refused = tooth > 0 && tooth <= k;
                    Object got = Due.outcome(() -> x.turn(0, by));
                    Due.is("tooth " + tooth + " at 5000, by " + k, got instanceof String, refused);
                    if (refused) {
                        Due.is("thrown", got, Due.STATE.getName());
                    }
                }
            }
        });
        Sentences.test(words, "far beyond", () -> {
            for (int flank = 0; flank < 2; flank++) {
                GearGauge x = Bounds.gears(5);
                x.setReading(0, flank, 0, -5000);
                GearPromisesTest.set(x, 0, flank, -5000, -5000, -5000, -5000, -5000, 5000);
                Due.is("a tooth up to 5000", Due.outcome(() -> x.turn(0, 4)), flank == 0 ? -5000 : 0);
                Due.is("a tooth up to 5000", x.reading(0, flank, 5), 5000);
                Due.is("a second turn", Due.outcome(() -> x.turn(0, 2)), Due.STATE.getName());
            }
        });
        Sentences.test(words, "the radial readings have no closing error", () -> {
            GearGauge x = Bounds.gears(5);
            GearPromisesTest.set(x, 0, 2, 5000, -5000, 5000, -5000, 5000);
            Due.is("turned", x.turn(0, 3), 0);
            GearPromisesTest.hasReadings("turned", x, 0, 2, -5000, 5000, 5000, -5000, 5000);
        });
    }

    private static void gears() {
        Sentences.section("Promise 7: gears");
        Sentences.test("Returns the number of gears.", () -> {
            Bounds.answers("of a rich object", Bounds::rich, x -> x.gears(), 3);
            GearGauge x = Bounds.full();
            x.removeGear(2);
            Due.is("behind a removal", x.gears(), 5);
            x.undo();
            Due.is("behind undo", x.gears(), 6);
        });
        Sentences.test("Returns 0 to 6.", () -> {
            Bounds.answers("of a new object", GearGauge::new, x -> x.gears(), 0);
            Bounds.answers("of a full object", Bounds::full, x -> x.gears(), 6);
            GearGauge x = Bounds.full();
            Due.outcome(() -> x.addGear(5, 1));
            Due.is("behind a seventh that is refused", x.gears(), 6);
        });
    }

    private static void gear() {
        Sentences.section("Promise 8: gear");
        Sentences.test("Returns something about a gear.", () -> {
            int[] left = filled(30, 0, 12, 400);
            int[] right = filled(30, 1, 12, 400);
            int[] due = {30, 20, 1, Bounds.rich().quality(1, GearGauge.NONE), left[30] - left[0], right[30] - right[0]};
            for (int what = 0; what < 6; what++) {
                int w = what;
                Bounds.answers("of gear 1, " + what, Bounds::rich, x -> x.gear(1, w), due[what]);
            }
        });
        Sentences.test("- `gear`: number of a gear", () -> Bounds.gearNumber((x, v) -> x.gear(v, 3)));
        Sentences.test("- `what`: 0 the number of its teeth, ..", () -> {
            for (int gear = 0; gear < 3; gear++) {
                int g = gear;
                Bounds.range(Due.ARGUMENT, Bounds::rich, (x, v) -> x.gear(g, v), 0, 5);
            }
        });
        Sentences.test("- `what`: 0 the number of its teeth, ..", "the least and the greatest of each", () -> {
            GearGauge x = new GearGauge();
            x.addGear(5, 1);
            x.addGear(30, 20);
            int[] least = {5, 1, 0, 1, 0, 0};
            int[] most = {30, 20, 10, 13, 10000, -10000};
            for (int i = 0; i < 10; i++) {
                x.addLine(1, i % 2);
            }
            x.setReading(1, 0, 0, -5000);
            x.setReading(1, 0, 30, 5000);
            x.setReading(1, 1, 0, 5000);
            x.setReading(1, 1, 30, -5000);
            x.setReading(1, 2, 29, 5000);
            for (int what = 0; what < 6; what++) {
                Due.is("the least, " + what, x.gear(0, what), least[what]);
                Due.is("the greatest, " + what, x.gear(1, what), most[what]);
            }
        });
        Sentences.test("Returns that value.", () -> {
            GearGauge x = Bounds.rich();
            Due.is("teeth", x.gear(2, 0), 7);
            Due.is("module", x.gear(2, 1), 3);
            Due.is("lines", x.gear(2, 2), 2);
            Due.is("class", x.gear(2, 3), x.quality(2, GearGauge.NONE));
            Due.is("closing error of series 0", x.gear(2, 4), x.reading(2, 0, 7) - x.reading(2, 0, 0));
            Due.is("closing error of series 1", x.gear(2, 5), x.reading(2, 1, 7) - x.reading(2, 1, 0));
        });
        Sentences.test("Throws `IndexOutOfBoundsException` if there is no such gear", () -> {
            int[][] wrong = {{-1, 0}, {3, 0}, {3, 6}, {-1, -1}, {Bounds.LEAST, Bounds.LEAST}, {Bounds.MOST, 5}};
            for (int[] w : wrong) {
                Bounds.refused(w[0] + ", " + w[1], Due.BOUNDS, Bounds::rich, x -> x.gear(w[0], w[1]));
            }
        });
        Sentences.test("Throws `IllegalArgumentException` if what is out of range", () ->
                Bounds.refused(Due.ARGUMENT, Bounds::full, (x, v) -> x.gear(5, v), -1, 6, 9, Bounds.LEAST, Bounds.MOST));
    }

    private static void reading() {
        Sentences.section("Promise 9: reading");
        Sentences.test("Returns a reading.", () ->
                Bounds.answers("of gear 1", Bounds::rich, x -> x.reading(1, 2, 29), filled(30, 2, 12, 400)[29]));
        Sentences.test("- `gear`: number of a gear", () -> Bounds.gearNumber((x, v) -> x.reading(v, 0, 0)));
        Sentences.test("- `series`: 0 to 2", () ->
                Bounds.range(Due.BOUNDS, Bounds::rich, (x, v) -> x.reading(0, v, 0), 0, 2));
        Sentences.test("- `index`: index of the reading", () -> {
            for (int flank = 0; flank < 2; flank++) {
                int f = flank;
                Bounds.range(Due.BOUNDS, Bounds::rich, (x, v) -> x.reading(2, f, v), 0, 7);
                Bounds.range(Due.BOUNDS, Bounds::rich, (x, v) -> x.reading(1, f, v), 0, 30);
            }
            Bounds.range(Due.BOUNDS, Bounds::rich, (x, v) -> x.reading(2, 2, v), 0, 6);
            Bounds.range(Due.BOUNDS, Bounds::rich, (x, v) -> x.reading(1, 2, v), 0, 29);
        });
        Sentences.test("Returns the reading.", () -> {
            GearGauge x = Bounds.gears(5, 6);
            for (int series = 0; series < 3; series++) {
                for (int i = 0; i < (series == 2 ? 6 : 7); i++) {
                    x.setReading(1, series, i, 100 * series + i);
                }
            }
            GearPromisesTest.hasReadings("left", x, 1, 0, 0, 1, 2, 3, 4, 5, 6);
            GearPromisesTest.hasReadings("right", x, 1, 1, 100, 101, 102, 103, 104, 105, 106);
            GearPromisesTest.hasReadings("radial", x, 1, 2, 200, 201, 202, 203, 204, 205);
            GearPromisesTest.hasReadings("of the other gear", x, 0, 0, new int[6]);
        });
        Sentences.test("Throws `IndexOutOfBoundsException` if there is no such gear, series or reading", () -> {
            int[][] wrong = {{-1, 0, 0}, {3, 0, 0}, {0, -1, 0}, {0, 3, 0}, {0, 0, -1}, {0, 0, 6}, {0, 1, 6}, {0, 2, 5},
                {6, 3, 31}, {Bounds.LEAST, Bounds.LEAST, Bounds.LEAST}, {Bounds.MOST, Bounds.MOST, Bounds.MOST}};
            for (int[] w : wrong) {
                Bounds.refused(w[0] + ", " + w[1] + ", " + w[2], Due.BOUNDS, Bounds::rich,
                        x -> x.reading(w[0], w[1], w[2]));
            }
        });
    }
}
