/** Sentences about the deviations of the teeth and of a gear: promises 10 to 15, and the description of them. */
final class DeviationBounds {
    private DeviationBounds() {
    }

    static void all() {
        round();
        indexDeviations();
        deviationsOfGear();
        index();
        pitch();
        span();
        thickness();
        eccentricity();
        deviation();
    }

    /** All readings of the left flank 0 but the last one. */
    private static GearGauge closing(int teeth, int error) {
        GearGauge x = Bounds.gears(teeth);
        x.setReading(0, 0, teeth, error);
        return x;
    }

    private static void round() {
        Sentences.section("Description");
        String words = "Round(p / q), for q above 0, is the nearest whole number, "
                + "the greater one of two equally near ones.";
        Sentences.test(words, "two equally near ones", () -> {
            // Half of the closing error, at the opposite tooth; the index deviation is its negative.
            int[][] halves = {{1, 1}, {-1, 0}, {3, 2}, {-3, -1}, {5, 3}, {-5, -2}, {9999, 5000}, {-9999, -4999}};
            for (int[] h : halves) {
                Due.is("round(" + h[0] + " / 2)", closing2(6, h[0]).index(0, 0, 3), -h[1]);
                Due.is("round(" + h[0] + " / 2)", closing2(30, h[0]).index(0, 0, 15), -h[1]);
            }
        });
        Sentences.test(words, "just below and above a half", () -> {
            int[][] thirtieths = {{14, 0}, {15, 1}, {16, 1}, {29, 1}, {44, 1}, {45, 2}, {46, 2}, {-14, 0}, {-15, 0},
                {-16, -1}, {-29, -1}, {-44, -1}, {-45, -1}, {-46, -2}};
            for (int[] t : thirtieths) {
                Due.is("round(" + t[0] + " / 30)", closing(30, t[0]).index(0, 0, 1), -t[1]);
            }
        });
        Sentences.test(words, "whole numbers stay", () -> {
            for (int error = -100; error <= 100; error += 20) {
                Due.is("round(" + error + " / 5)", closing(5, error).index(0, 0, 1), -error / 5);
            }
        });
        Sentences.test(words, "everywhere", () -> {
            for (int teeth = 5; teeth <= 30; teeth++) {
                GearGauge x = Bounds.gears(teeth);
                for (int error = -7; error <= 7; error++) {
                    x.setReading(0, 0, teeth, error);
                    for (int i = 0; i <= teeth; i++) {
                        int due = (i == teeth ? error : 0) - Bounds.round((long) error * i, teeth);
                        Due.is("round(" + error + " * " + i + " / " + teeth + ")", x.index(0, 0, i), due);
                    }
                }
            }
        });
        Sentences.test("Root(p) is the greatest whole number whose square is at most p.", () -> {
            for (int z = 5; z <= 30; z++) {
                for (int m = 1; m <= 20; m++) {
                    GearGauge x = new GearGauge();
                    x.addGear(z, m);
                    // The tolerance 6 of class 5 is 60 + 2 * R.
                    int root = (x.tolerance(0, 6, 5) - 60) / 2;
                    Due.is("its square is at most " + m * z, root * root <= m * z, true);
                    Due.is("the next square is above " + m * z, (root + 1) * (root + 1) > m * z, true);
                }
            }
        });
    }

    /** A closing error up to 10000: from the reading 0 to the reading z. */
    private static GearGauge closing2(int teeth, int error) {
        GearGauge x = Bounds.gears(teeth);
        int first = -(error / 2);
        for (int i = 0; i < teeth; i++) {
            x.setReading(0, 0, i, first);
        }
        x.setReading(0, 0, teeth, first + error);
        return x;
    }

    private static void indexDeviations() {
        Sentences.section("Description");
        Sentences.test("For a flank (series 0 or 1), the closing error is E = reading z - reading 0.", () -> {
            int[][] ends = {{0, 0}, {5000, -5000}, {-5000, 5000}, {-5000, -5000}, {5000, 5000}, {4, 3}, {0, 1}};
            for (int[] e : ends) {
                for (int flank = 0; flank < 2; flank++) {
                    GearGauge x = Bounds.gears(5);
                    x.setReading(0, flank, 0, e[0]);
                    x.setReading(0, flank, 5, e[1]);
                    Due.is("of this flank", x.gear(0, 4 + flank), e[1] - e[0]);
                    Due.is("of the other flank", x.gear(0, 5 - flank), 0);
                }
            }
        });
        Sentences.test("The index deviation of tooth i, for i from 0 to z, is reading i - reading 0 - Round(E * i / z).",
                () -> {
            int[] teeth = {5, 6, 13, 29, 30};
            for (int z : teeth) {
                for (int spread : new int[] {3, 100, 5000}) {
                    GearGauge x = Bounds.gears(z);
                    x.fill(0, 7 * z + spread, spread);
                    for (int flank = 0; flank < 2; flank++) {
                        int[] due = Bounds.indices(x, 0, flank);
                        for (int i = 0; i <= z; i++) {
                            Due.is("tooth " + i + " of " + z, x.index(0, flank, i), due[i]);
                        }
                    }
                }
            }
        });
        Sentences.test("The index deviation of tooth i, for i from 0 to z, is reading i - reading 0 - Round(E * i / z).",
                "the greatest closing errors", () -> {
            GearGauge x = Bounds.gears(30);
            for (int sign = -1; sign <= 1; sign += 2) {
                for (int i = 0; i < 30; i++) {
                    x.setReading(0, 1, i, -5000 * sign);
                }
                x.setReading(0, 1, 30, 5000 * sign);
                // 10000 * 29 / 30 is 9666 and two thirds.
                Due.is("tooth 29", x.index(0, 1, 29), -9667 * sign);
                x.setReading(0, 1, 1, 5000 * sign);
                Due.is("tooth 1", x.index(0, 1, 1), (10000 - 333) * sign);
            }
        });
        Sentences.test("(So those of 0 and z are 0.)", () -> {
            for (int z = 5; z <= 30; z++) {
                GearGauge x = Bounds.gears(z);
                for (int seed = 0; seed < 5; seed++) {
                    x.fill(0, seed, 5000);
                    for (int flank = 0; flank < 2; flank++) {
                        Due.is("that of 0 of " + z, x.index(0, flank, 0), 0);
                        Due.is("that of z of " + z, x.index(0, flank, z), 0);
                    }
                }
            }
        });
        Sentences.test("The pitch deviation of tooth i, for i from 1 to z, is its index deviation minus that of i - 1; ..",
                () -> {
            for (int z : new int[] {5, 6, 30}) {
                GearGauge x = Bounds.gears(z);
                x.fill(0, z, 700);
                for (int flank = 0; flank < 2; flank++) {
                    int[] index = Bounds.indices(x, 0, flank);
                    for (int i = 1; i <= z; i++) {
                        Due.is("pitch " + i, x.pitch(0, flank, i), index[i] - index[i - 1]);
                    }
                }
            }
        });
        Sentences.test("The pitch deviation of tooth i, for i from 1 to z, is its index deviation minus that of i - 1; ..",
                "the pitch deviation z goes from the last tooth to tooth 0", () -> {
            GearGauge x = Bounds.gears(5, 30);
            x.setReading(0, 0, 4, 40);
            x.setReading(1, 1, 29, -50);
            Due.is("of 5", x.pitch(0, 0, 5), -40);
            Due.is("of 30", x.pitch(1, 1, 30), 50);
            x.setReading(1, 1, 30, 60);
            // A closing error of 60: at tooth 29 it is 58.
            Due.is("with a closing error", x.pitch(1, 1, 30), 108);
        });
        Sentences.test("The thickness deviation of tooth i, for i from 0 to z - 1, ..", () -> {
            for (int z : new int[] {5, 30}) {
                GearGauge x = Bounds.gears(z);
                x.fill(0, 3 * z, 700);
                int[] left = Bounds.indices(x, 0, 0);
                int[] right = Bounds.indices(x, 0, 1);
                for (int i = 0; i < z; i++) {
                    Due.is("thickness " + i, x.thickness(0, i), left[i] - right[i]);
                }
            }
        });
    }

    private static void deviationsOfGear() {
        Sentences.section("Description");
        String words = "They are numbered: 0 the greatest absolute pitch deviation of both flanks; ..";
        for (int i = 0; i < 4; i++) {
            int flank = i / 2;
            int sign = i % 2 == 0 ? 1 : -1;
            String side = "flank " + flank + ", sign " + sign;
            Sentences.test(words, "0, " + side, () -> {
                GearGauge x = Bounds.gears(5);
                GearPromisesTest.set(x, 0, flank, 0, 3 * sign, 10 * sign, 17 * sign, 9 * sign, 0);
                // Pitches 3, 7, 7, -8, -9: the greatest is the last one, to tooth 0.
                Due.is("the last pitch", x.deviation(0, 0), 9);
                GearPromisesTest.set(x, 0, flank, 0, 11 * sign, 2 * sign, 7 * sign, 9 * sign, 0);
                Due.is("the first pitch", x.deviation(0, 0), 11);
            });
            Sentences.test(words, "1, " + side, () -> {
                GearGauge x = Bounds.gears(5);
                GearPromisesTest.set(x, 0, flank, 0, 1 * sign, 2 * sign, 3 * sign, 4 * sign, 0);
                Due.is("the last tooth, and tooth 0", x.deviation(0, 1), 4);
                GearPromisesTest.set(x, 0, flank, 0, 5 * sign, 2 * sign, -3 * sign, 4 * sign, 0);
                Due.is("both sides of tooth 0", x.deviation(0, 1), 8);
                GearPromisesTest.set(x, 0, 1 - flank, 0, -9 * sign, -9 * sign, 0, 0, 0);
                Due.is("each flank by itself", x.deviation(0, 1), 9);
            });
        }
        Sentences.test(words, "2", () -> {
            int[][] radial = {{9, 8, 7, 6, 5, 4}, {-9, -8, -7, -6, -5, 4}, {-9, 0, 0, 0, 7, 16},
                {5000, 0, 0, 0, 0, 5000}, {5000, -5000, 0, 0, 0, 10000}, {3, 3, 3, 3, 3, 0}, {0, 0, 0, 0, -1, 1}};
            for (int[] r : radial) {
                GearGauge x = Bounds.gears(5);
                GearPromisesTest.set(x, 0, 2, r[0], r[1], r[2], r[3], r[4]);
                Due.is("runout", x.deviation(0, 2), r[5]);
            }
        });
        Sentences.test(words, "3 to 8, one kind alone", () -> {
            for (int kind = 0; kind < 2; kind++) {
                GearGauge x = Bounds.gears(5, 5);
                LinePromisesTest.line(x, 1, kind, 0, 57, 38);
                int[] due = {57, 38, 38};
                for (int i = 0; i < 3; i++) {
                    Due.is("of its kind " + kind, x.deviation(1, 3 + 3 * kind + i), due[i]);
                    Due.is("of the kind without lines", x.deviation(1, 6 - 3 * kind + i), 0);
                    Due.is("of the gear without lines", x.deviation(0, 3 + 3 * kind + i), 0);
                }
            }
        });
        Sentences.test(words, "3 to 8, the greatest of several lines", () -> {
            for (int kind = 0; kind < 2; kind++) {
                for (int first = 0; first < 3; first++) {
                    GearGauge x = Bounds.gears(5);
                    // Totals 53, 50, 45; slopes 36, -50, 0; forms 35, 0, 45.
                    int[][] lines = {{0, 53, 36}, {50, 25, 0}, {0, 45, 0}};
                    for (int i = 0; i < 3; i++) {
                        int[] l = lines[(first + i) % 3];
                        LinePromisesTest.line(x, 0, kind, l[0], l[1], l[2]);
                    }
                    Due.is("total", x.deviation(0, 3 + 3 * kind), 53);
                    Due.is("slope", x.deviation(0, 4 + 3 * kind), 50);
                    Due.is("form", x.deviation(0, 5 + 3 * kind), 45);
                }
            }
        });
        Sentences.test(words, "4 and 7, the absolute slope", () -> {
            for (int kind = 0; kind < 2; kind++) {
                GearGauge x = Bounds.gears(5);
                LinePromisesTest.line(x, 0, kind, 0, -10, -20);
                Due.is("of one below 0", x.deviation(0, 4 + 3 * kind), 20);
                LinePromisesTest.line(x, 0, kind, 0, 9, 18);
                Due.is("of 20 below 0 and 18 above", x.deviation(0, 4 + 3 * kind), 20);
                LinePromisesTest.line(x, 0, kind, 0, 10, 21);
                Due.is("of 20 below 0 and 21 above", x.deviation(0, 4 + 3 * kind), 21);
            }
        });
    }

    private static void index() {
        Sentences.section("Promise 10: index");
        Sentences.test("Returns an index deviation.", () -> {
            int due = Bounds.indices(Bounds.rich(), 1, 0)[17];
            Bounds.answers("tooth 17", Bounds::rich, x -> x.index(1, 0, 17), due);
        });
        Sentences.test("- `gear`: number of a gear", () -> Bounds.gearNumber((x, v) -> x.index(v, 0, 0)));
        Sentences.test("- `flank`: 0 left, 1 right", () ->
                Bounds.range(Due.BOUNDS, Bounds::rich, (x, v) -> x.index(0, v, 0), 0, 1));
        Sentences.test("- `flank`: 0 left, 1 right", "which is which", () -> {
            GearGauge x = Bounds.gears(5);
            x.setReading(0, 0, 1, 3);
            x.setReading(0, 1, 1, 4);
            x.setReading(0, 2, 1, 5);
            Due.is("left", x.index(0, 0, 1), 3);
            Due.is("right", x.index(0, 1, 1), 4);
        });
        Sentences.test("- `tooth`: 0 to teeth", () -> {
            Bounds.range(Due.BOUNDS, Bounds::rich, (x, v) -> x.index(0, 0, v), 0, 5);
            Bounds.range(Due.BOUNDS, Bounds::rich, (x, v) -> x.index(1, 1, v), 0, 30);
        });
        Sentences.test("Returns the index deviation.", () -> {
            GearGauge x = Bounds.rich();
            for (int flank = 0; flank < 2; flank++) {
                int[] due = Bounds.indices(x, 2, flank);
                for (int i = 0; i <= 7; i++) {
                    Due.is("tooth " + i, x.index(2, flank, i), due[i]);
                }
            }
        });
        Sentences.test("Throws `IndexOutOfBoundsException` if there is no such gear, flank or tooth", () -> {
            int[][] wrong = {{-1, 0, 0}, {3, 0, 0}, {0, -1, 0}, {0, 2, 0}, {0, 0, -1}, {0, 0, 6}, {1, 1, 31},
                {2, 1, 8}, {Bounds.LEAST, Bounds.LEAST, Bounds.LEAST}, {Bounds.MOST, Bounds.MOST, Bounds.MOST},
                {0, Bounds.MOST, 0}, {0, 0, Bounds.MOST}};
            for (int[] w : wrong) {
                Bounds.refused(w[0] + ", " + w[1] + ", " + w[2], Due.BOUNDS, Bounds::rich,
                        x -> x.index(w[0], w[1], w[2]));
            }
        });
    }

    private static void pitch() {
        Sentences.section("Promise 11: pitch");
        Sentences.test("Returns a pitch deviation.", () -> {
            int[] index = Bounds.indices(Bounds.rich(), 1, 1);
            Bounds.answers("the first", Bounds::rich, x -> x.pitch(1, 1, 1), index[1]);
            Bounds.answers("tooth 17", Bounds::rich, x -> x.pitch(1, 1, 17), index[17] - index[16]);
            Bounds.answers("the last", Bounds::rich, x -> x.pitch(1, 1, 30), -index[29]);
        });
        Sentences.test("- `gear`: number of a gear", () -> Bounds.gearNumber((x, v) -> x.pitch(v, 0, 1)));
        Sentences.test("- `flank`: 0 left, 1 right", () ->
                Bounds.range(Due.BOUNDS, Bounds::rich, (x, v) -> x.pitch(0, v, 1), 0, 1));
        Sentences.test("- `flank`: 0 left, 1 right", "which is which", () -> {
            GearGauge x = Bounds.gears(5);
            x.setReading(0, 0, 1, 3);
            x.setReading(0, 1, 1, 4);
            Due.is("left", x.pitch(0, 0, 1), 3);
            Due.is("right", x.pitch(0, 1, 1), 4);
        });
        Sentences.test("- `tooth`: 1 to teeth", () -> {
            Bounds.range(Due.BOUNDS, Bounds::rich, (x, v) -> x.pitch(0, 0, v), 1, 5);
            Bounds.range(Due.BOUNDS, Bounds::rich, (x, v) -> x.pitch(1, 1, v), 1, 30);
        });
        Sentences.test("Returns the pitch deviation.", () -> {
            GearGauge x = Bounds.gears(5);
            GearPromisesTest.set(x, 0, 0, 0, 1, 3, 7, 15, 0);
            int[] due = {1, 2, 4, 8, -15};
            for (int i = 1; i <= 5; i++) {
                Due.is("tooth " + i, x.pitch(0, 0, i), due[i - 1]);
            }
        });
        Sentences.test("Throws `IndexOutOfBoundsException` if there is no such gear, flank or tooth", () -> {
            int[][] wrong = {{-1, 0, 1}, {3, 0, 1}, {0, -1, 1}, {0, 2, 1}, {0, 0, 0}, {0, 0, -1}, {0, 0, 6}, {1, 1, 31},
                {2, 1, 8}, {Bounds.LEAST, Bounds.LEAST, Bounds.LEAST}, {Bounds.MOST, Bounds.MOST, Bounds.MOST},
                {0, Bounds.MOST, 1}, {0, 0, Bounds.MOST}, {0, 0, Bounds.LEAST}};
            for (int[] w : wrong) {
                Bounds.refused(w[0] + ", " + w[1] + ", " + w[2], Due.BOUNDS, Bounds::rich,
                        x -> x.pitch(w[0], w[1], w[2]));
            }
        });
    }

    private static int greatestSum(GearGauge x, int gear, int flank, int k) {
        int z = x.gear(gear, 0);
        int[] pitch = new int[z];
        for (int i = 0; i < z; i++) {
            pitch[i] = x.pitch(gear, flank, i + 1);
        }
        int greatest = 0;
        for (int from = 0; from < z; from++) {
            int sum = 0;
            for (int i = 0; i < k; i++) {
                sum += pitch[(from + i) % z];
            }
            greatest = Math.max(greatest, Math.abs(sum));
        }
        return greatest;
    }

    private static void span() {
        Sentences.section("Promise 12: span");
        String words = "Returns the greatest absolute sum of k pitch deviations in a row, going on around the wheel.";
        Sentences.test(words, "each k", () -> {
            for (int z : new int[] {5, 6, 30}) {
                for (int k = 1; k <= z; k++) {
                    GearGauge x = Bounds.gears(z);
                    x.fill(0, z + k, 5000);
                    Due.is("left, " + k + " of " + z, x.span(0, 0, k), greatestSum(x, 0, 0, k));
                    Due.is("right, " + k + " of " + z, x.span(0, 1, k), greatestSum(x, 0, 1, k));
                }
            }
        });
        Sentences.test(words, "going on around the wheel", () -> {
            for (int sign = -1; sign <= 1; sign += 2) {
                GearGauge x = Bounds.gears(6);
                // Pitches 30, -20, -20, -20, 0, 30: only the last one and the first one add up to 60.
                GearPromisesTest.set(x, 0, 1, 0, 30 * sign, 10 * sign, -10 * sign, -30 * sign, -30 * sign, 0);
                Due.is("two, around", x.span(0, 1, 2), 60);
                Due.is("one", x.span(0, 1, 1), 30);
                Due.is("three", x.span(0, 1, 3), 60);
                // Pitches 30, -20, -20, 0, -20, 30: of three -60 and 60, 40 without going on.
                x.setReading(0, 1, 4, -10 * sign);
                Due.is("two, around", x.span(0, 1, 2), 60);
            }
        });
        Sentences.test(words, "of the greatest k one is left out", () -> {
            GearGauge x = Bounds.gears(5);
            GearPromisesTest.set(x, 0, 0, 0, 1, 3, 7, 15, 0);
            Due.is("four of five", x.span(0, 0, 4), 15);
            Due.is("a whole turn", x.span(0, 0, 5), 0);
            Due.is("three of five", x.span(0, 0, 3), 14);
        });
        Sentences.test("- `gear`: number of a gear", () -> Bounds.gearNumber((x, v) -> x.span(v, 0, 1)));
        Sentences.test("- `flank`: 0 left, 1 right", () ->
                Bounds.range(Due.BOUNDS, Bounds::rich, (x, v) -> x.span(0, v, 1), 0, 1));
        Sentences.test("- `flank`: 0 left, 1 right", "which is which", () -> {
            GearGauge x = Bounds.gears(5);
            x.setReading(0, 0, 1, 3);
            x.setReading(0, 1, 1, 4);
            Due.is("left", x.span(0, 0, 1), 3);
            Due.is("right", x.span(0, 1, 1), 4);
        });
        Sentences.test("- `k`: 1 to teeth", () -> {
            Bounds.range(Due.ARGUMENT, Bounds::rich, (x, v) -> x.span(0, 0, v), 1, 5);
            Bounds.range(Due.ARGUMENT, Bounds::rich, (x, v) -> x.span(1, 1, v), 1, 30);
        });
        Sentences.test("Returns that sum.", () -> {
            int due = greatestSum(Bounds.rich(), 1, 0, 8);
            Bounds.answers("of 8 in a row", Bounds::rich, x -> x.span(1, 0, 8), due);
        });
        Sentences.test("Throws `IndexOutOfBoundsException` if there is no such gear or flank", () -> {
            int[][] wrong = {{-1, 0, 1}, {3, 0, 1}, {0, -1, 1}, {0, 2, 1}, {3, 0, 0}, {0, 2, 0}, {0, -1, 6}, {-1, 2, 99},
                {Bounds.LEAST, 0, Bounds.LEAST}, {0, Bounds.LEAST, Bounds.LEAST}, {0, Bounds.MOST, Bounds.MOST}};
            for (int[] w : wrong) {
                Bounds.refused(w[0] + ", " + w[1] + ", " + w[2], Due.BOUNDS, Bounds::rich,
                        x -> x.span(w[0], w[1], w[2]));
            }
        });
        Sentences.test("Throws `IllegalArgumentException` if k is out of range", () -> {
            Bounds.refused(Due.ARGUMENT, Bounds::rich, (x, v) -> x.span(0, 1, v), 0, 6, -1, Bounds.LEAST, Bounds.MOST);
            Bounds.refused(Due.ARGUMENT, Bounds::rich, (x, v) -> x.span(1, 0, v), 0, 31, -30);
        });
    }

    private static void thickness() {
        Sentences.section("Promise 13: thickness");
        String words = "Returns a thickness deviation, or the greatest minus the smallest one.";
        Sentences.test(words, () -> {
            int[] left = Bounds.indices(Bounds.rich(), 1, 0);
            int[] right = Bounds.indices(Bounds.rich(), 1, 1);
            int[] all = new int[30];
            for (int i = 0; i < 30; i++) {
                all[i] = left[i] - right[i];
            }
            Bounds.answers("of the last tooth", Bounds::rich, x -> x.thickness(1, 29), all[29]);
            Bounds.answers("the greatest minus the smallest one", Bounds::rich,
                    x -> x.thickness(1, GearGauge.NONE), Bounds.range(all));
        });
        Sentences.test(words, "the greatest minus the smallest one", () -> {
            int[][] left = {{0, 12, 9, 9, 9, 12}, {0, -12, -9, -9, -9, 12}, {0, 0, 0, 0, 20, 20}, {0, 5, -5, 0, 0, 10},
                {0, 0, 0, 0, 0, 0}, {0, 0, 0, 0, -1, 1}};
            for (int[] l : left) {
                for (int flank = 0; flank < 2; flank++) {
                    GearGauge x = Bounds.gears(5);
                    GearPromisesTest.set(x, 0, flank, l[0], l[1], l[2], l[3], l[4], 0);
                    Due.is("flank " + flank, x.thickness(0, GearGauge.NONE), l[5]);
                }
            }
        });
        Sentences.test("- `gear`: number of a gear", () -> {
            Bounds.gearNumber((x, v) -> x.thickness(v, 0));
            Bounds.gearNumber((x, v) -> x.thickness(v, GearGauge.NONE));
        });
        Sentences.test("- `tooth`: 0 to teeth - 1, or NONE for the greatest minus the smallest one", () -> {
            Bounds.range(Due.BOUNDS, Bounds::rich, (x, v) -> x.thickness(0, v), -1, 4);
            Bounds.range(Due.BOUNDS, Bounds::rich, (x, v) -> x.thickness(1, v), -1, 29);
            Bounds.taken(Bounds::rich, (x, v) -> x.thickness(1, v), 0, GearGauge.NONE);
        });
        Sentences.test("Returns that value.", () -> {
            GearGauge x = Bounds.gears(5);
            GearPromisesTest.set(x, 0, 0, 0, 1, 2, 3, 4, 0);
            GearPromisesTest.set(x, 0, 1, 0, 10, 30, 20, 50, 0);
            int[] due = {0, -9, -28, -17, -46};
            for (int i = 0; i < 5; i++) {
                Due.is("tooth " + i, x.thickness(0, i), due[i]);
            }
            Due.is("NONE", x.thickness(0, -1), 46);
        });
        Sentences.test("Throws `IndexOutOfBoundsException` if there is no such gear or tooth", () -> {
            int[][] wrong = {{-1, 0}, {3, 0}, {-1, -1}, {3, -1}, {0, -2}, {0, 5}, {1, 30}, {2, 7}, {0, Bounds.LEAST},
                {0, Bounds.MOST}, {Bounds.LEAST, 0}, {Bounds.MOST, -1}};
            for (int[] w : wrong) {
                Bounds.refused(w[0] + ", " + w[1], Due.BOUNDS, Bounds::rich, x -> x.thickness(w[0], w[1]));
            }
        });
    }

    private static void eccentricity() {
        Sentences.section("Promise 14: eccentricity");
        String words = "Returns the eccentricity: ..";
        Sentences.test(words, "each pair of teeth, even and odd", () -> {
            for (int z : new int[] {5, 6, 7, 29, 30}) {
                for (int i = 0; i < z; i++) {
                    for (int sign = -1; sign <= 1; sign += 2) {
                        GearGauge x = Bounds.gears(z);
                        int opposite = (i + z / 2) % z;
                        x.setReading(0, 2, i, 10 * sign);
                        x.setReading(0, 2, opposite, -11 * sign);
                        Due.is("tooth " + i + " of " + z, x.eccentricity(0), 10.5);
                    }
                }
            }
        });
        Sentences.test(words, "other distances do not count", () -> {
            // Of 5 teeth those 2 apart count; from the first two on the way around it is one apart, or three.
            GearGauge x = Bounds.gears(5);
            GearPromisesTest.set(x, 0, 2, 0, 50, 0, 50, 0);
            Due.is("one apart", x.eccentricity(0), 25.0);
            GearPromisesTest.set(x, 0, 2, 40, 50, 40, 50, 45);
            // Two apart: 0, 0, 5, -10, 5.
            Due.is("two apart", x.eccentricity(0), 5.0);
            GearGauge y = Bounds.gears(6);
            GearPromisesTest.set(y, 0, 2, 7, 0, -7, 7, 0, -7);
            Due.is("of 6, three apart", y.eccentricity(0), 0.0);
        });
        Sentences.test(words, "going on around the wheel", () -> {
            // Two apart: 0, 10, 20, -30 and 0: the tooth 3 goes on to tooth 0.
            GearGauge x = Bounds.gears(5);
            GearPromisesTest.set(x, 0, 2, 0, 20, 0, 30, 20);
            Due.is("from tooth 3 to tooth 0", x.eccentricity(0), 15.0);
            GearPromisesTest.set(x, 0, 2, 20, 0, 20, 20, 31);
            Due.is("from tooth 4 to tooth 1", x.eccentricity(0), 15.5);
        });
        Sentences.test("- `gear`: number of a gear", () -> Bounds.gearNumber((x, v) -> x.eccentricity(v)));
        Sentences.test("Returns that half, as a double.", () -> {
            int[] differences = {0, 1, 2, 3, 9999, 10000};
            for (int d : differences) {
                GearGauge x = Bounds.gears(5);
                int most = Math.min(d, 5000);
                // Each tooth reads the same but two that are two apart.
                GearPromisesTest.set(x, 0, 2, most, most - (d + 1) / 2, most - d, most - (d + 1) / 2, most - (d + 1) / 2);
                Due.is("half of " + d, x.eccentricity(0), d / 2.0);
            }
            double due = 0;
            GearGauge y = Bounds.rich();
            for (int i = 0; i < 30; i++) {
                int apart = y.reading(1, 2, i) - y.reading(1, 2, (i + 15) % 30);
                due = Math.max(due, Math.abs(apart) / 2.0);
            }
            Bounds.answers("of gear 1", Bounds::rich, x -> x.eccentricity(1), due);
        });
        Sentences.test("Throws `IndexOutOfBoundsException` if there is no such gear", () -> {
            Bounds.refused(Due.BOUNDS, Bounds::rich, (x, v) -> x.eccentricity(v), -1, 3, 6, Bounds.LEAST, Bounds.MOST);
            Bounds.refused(Due.BOUNDS, GearGauge::new, (x, v) -> x.eccentricity(v), -1, 0);
        });
    }

    private static void deviation() {
        Sentences.section("Promise 15: deviation");
        Sentences.test("Returns a deviation of a gear.", () -> {
            int[] left = Bounds.indices(Bounds.rich(), 1, 0);
            int[] right = Bounds.indices(Bounds.rich(), 1, 1);
            Bounds.answers("of gear 1", Bounds::rich, x -> x.deviation(1, 1),
                    Math.max(Bounds.range(left), Bounds.range(right)));
        });
        Sentences.test("- `gear`: number of a gear", () -> Bounds.gearNumber((x, v) -> x.deviation(v, 8)));
        Sentences.test("- `what`: 0 to 8", () -> {
            for (int gear = 0; gear < 3; gear++) {
                int g = gear;
                Bounds.range(Due.ARGUMENT, Bounds::rich, (x, v) -> x.deviation(g, v), 0, 8);
            }
        });
        Sentences.test("Returns the deviation.", () -> {
            GearGauge x = Bounds.gears(5);
            GearPromisesTest.set(x, 0, 0, 0, 10, 25, 0, 0, 0);
            GearPromisesTest.set(x, 0, 2, 7, 0, 0, 0, 0);
            LinePromisesTest.line(x, 0, 0, 0, 57, 38);
            LinePromisesTest.line(x, 0, 1, 0, 30, 0);
            int[] due = {25, 25, 7, 57, 38, 38, 30, 0, 30};
            for (int what = 0; what < 9; what++) {
                Due.is("deviation " + what, x.deviation(0, what), due[what]);
            }
        });
        Sentences.test("Throws `IndexOutOfBoundsException` if there is no such gear", () -> {
            int[][] wrong = {{-1, 0}, {3, 0}, {3, 9}, {-1, -1}, {Bounds.LEAST, Bounds.LEAST}, {Bounds.MOST, 8}};
            for (int[] w : wrong) {
                Bounds.refused(w[0] + ", " + w[1], Due.BOUNDS, Bounds::rich, x -> x.deviation(w[0], w[1]));
            }
            Bounds.refused("no gear at all", Due.BOUNDS, GearGauge::new, x -> x.deviation(0, 0));
        });
        Sentences.test("Throws `IllegalArgumentException` if what is out of range", () -> Bounds.refused(Due.ARGUMENT,
                Bounds::full, (x, v) -> x.deviation(5, v), -1, 9, Bounds.LEAST, Bounds.MOST));
    }
}
