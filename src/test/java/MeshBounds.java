/** Sentences about gears in mesh and statistics over gears: promises 27 to 31, and the description of mesh. */
final class MeshBounds {
    private MeshBounds() {
    }

    static void all() {
        description();
        mesh();
        bestPhase();
        partner();
        mean();
        ranked();
    }

    /** The errors of all steps, one by one. */
    private static int walked(int[] g, int[] h, int phase) {
        // The last index deviation is that of tooth 0 again.
        int zg = g.length - 1;
        int zh = h.length - 1;
        int steps = zg;
        while (steps % zh != 0) {
            steps += zg;
        }
        int[] errors = new int[steps];
        for (int k = 0; k < steps; k++) {
            errors[k] = g[k % zg] + h[(k + phase) % zh];
        }
        return Bounds.range(errors);
    }

    private static final int[][] PAIRS = {{5, 5}, {5, 6}, {6, 8}, {8, 6}, {6, 9}, {10, 15}, {12, 30}, {30, 12}, {5, 30},
        {30, 5}, {30, 30}, {29, 30}, {30, 29}, {28, 30}, {7, 14}};

    private static void description() {
        Sentences.section("Description");
        String words = "For two gears g and h and a flank, with a phase from 0 to (teeth of h) - 1: ..";
        Sentences.test(words, "each phase", () -> {
            for (int[] pair : PAIRS) {
                for (int spread : new int[] {1, 40, 5000}) {
                    GearGauge x = Bounds.gears(pair);
                    x.fill(0, 3 * pair[0] + spread, spread);
                    x.fill(1, 5 * pair[1] + spread, spread);
                    for (int flank = 0; flank < 2; flank++) {
                        int[] g = Bounds.indices(x, 0, flank);
                        int[] h = Bounds.indices(x, 1, flank);
                        for (int phase = 0; phase < pair[1]; phase++) {
                            Due.is(pair[0] + " and " + pair[1] + ", phase " + phase, x.mesh(0, 1, flank, phase),
                                    walked(g, h, phase));
                        }
                    }
                }
            }
        });
        Sentences.test(words, "the last of the least common multiple of steps", () -> {
            // At the last step the last tooth of g meets the tooth before the phase, and nowhere else.
            int[][] pairs = {{29, 30}, {30, 29}, {5, 6}, {6, 8}, {28, 30}, {5, 5}, {30, 5}};
            for (int[] pair : pairs) {
                for (int phase = 1; phase < pair[1]; phase++) {
                    for (int sign = -1; sign <= 1; sign += 2) {
                        GearGauge x = Bounds.gears(pair);
                        x.setReading(0, 0, pair[0] - 1, 100 * sign);
                        if (phase > 1) {
                            x.setReading(1, 0, phase - 1, 100 * sign);
                        }
                        Due.is(pair[0] + " and " + pair[1] + ", phase " + phase, x.mesh(0, 1, 0, phase),
                                phase > 1 ? 200 : 100);
                    }
                }
            }
        });
        Sentences.test(words, "the step 0", () -> {
            // All others are at least 100 beside the tooth 0 of g and the tooth of h that it meets.
            for (int sign = -1; sign <= 1; sign += 2) {
                for (int phase = 1; phase < 8; phase++) {
                    GearGauge x = Bounds.gears(8, 8);
                    for (int i = 1; i < 8; i++) {
                        x.setReading(0, 0, i, 100 * sign);
                    }
                    x.setReading(1, 0, phase, -100 * sign);
                    Due.is("phase " + phase, x.mesh(0, 1, 0, phase), 200);
                    Due.is("another phase", x.mesh(0, 1, 0, 0), 100);
                }
            }
        });
        Sentences.test(words, "tooth k + phase goes round", () -> {
            GearGauge x = Bounds.gears(5, 5);
            GearPromisesTest.set(x, 0, 0, 0, 10, 20, 30, 40, 0);
            GearPromisesTest.set(x, 1, 0, 0, -40, -30, -20, -10, 0);
            // At phase 1 the sums are -40, -20, 0, 20, 40; at phase 4 they are -10, 10, -20, 0, 20.
            Due.is("phase 1", x.mesh(0, 1, 0, 1), 80);
            Due.is("phase 4", x.mesh(0, 1, 0, 4), 40);
        });
        Sentences.test("The transmission error is the greatest minus the smallest of these errors.", () -> {
            // Coprime teeth: each tooth meets each one.
            int[][] cases = {{7, 9, 16}, {-7, -9, 16}, {7, -9, 16}, {0, 0, 0}, {1, 0, 1}, {0, -1, 1}};
            for (int[] c : cases) {
                GearGauge x = Bounds.gears(5, 6);
                x.setReading(0, 1, 2, c[0]);
                x.setReading(1, 1, 3, c[1]);
                for (int phase = 0; phase < 6; phase++) {
                    Due.is(c[0] + ", " + c[1], x.mesh(0, 1, 1, phase), c[2]);
                }
            }
            // All errors above 0: at phase 3 no tooth 0 meets a tooth 0.
            GearGauge y = Bounds.gears(6, 6);
            GearPromisesTest.set(y, 0, 0, 0, 10, 10, 10, 10, 10, 0);
            GearPromisesTest.set(y, 1, 0, 0, 7, 7, 7, 7, 7, 0);
            Due.is("all above 0", y.mesh(0, 1, 0, 3), 10);
            Due.is("0 with 0", y.mesh(0, 1, 0, 0), 17);
        });
        Sentences.test("The transmission error is the greatest minus the smallest of these errors.", "the greatest",
                () -> {
            GearGauge x = Bounds.gears(30, 29);
            for (int gear = 0; gear < 2; gear++) {
                int z = x.gear(gear, 0);
                for (int i = 0; i < z; i++) {
                    x.setReading(gear, 0, i, i == z / 2 ? 5000 : -5000);
                }
                x.setReading(gear, 0, z, -5000);
            }
            Due.is("10000 and 10000", x.mesh(0, 1, 0, 7), 20000);
        });
    }

    private static void mesh() {
        Sentences.section("Promise 27: mesh");
        int due = walked(Bounds.indices(Bounds.rich(), 2, 1), Bounds.indices(Bounds.rich(), 0, 1), 4);
        Sentences.test("Returns the transmission error of two gears.", () ->
                Bounds.answers("of the gears 2 and 0", Bounds::rich, x -> x.mesh(2, 0, 1, 4), due));
        Sentences.test("- `g`: number of a gear", () -> Bounds.gearNumber((x, v) -> x.mesh(v, 0, 0, 0)));
        Sentences.test("- `h`: number of a gear", () -> Bounds.gearNumber((x, v) -> x.mesh(0, v, 0, 0)));
        Sentences.test("- `flank`: 0 left, 1 right", () ->
                Bounds.range(Due.BOUNDS, Bounds::rich, (x, v) -> x.mesh(0, 1, v, 0), 0, 1));
        Sentences.test("- `flank`: 0 left, 1 right", "which is which", () -> {
            GearGauge x = Bounds.gears(5, 6);
            x.setReading(0, 0, 1, 3);
            x.setReading(1, 1, 1, 4);
            Due.is("left", x.mesh(0, 1, 0, 0), 3);
            Due.is("right", x.mesh(0, 1, 1, 0), 4);
        });
        Sentences.test("- `phase`: 0 to (teeth of h) - 1", () -> {
            Bounds.range(Due.ARGUMENT, Bounds::rich, (x, v) -> x.mesh(0, 1, 0, v), 0, 29);
            Bounds.range(Due.ARGUMENT, Bounds::rich, (x, v) -> x.mesh(1, 0, 0, v), 0, 4);
            Bounds.range(Due.ARGUMENT, Bounds::rich, (x, v) -> x.mesh(2, 2, 0, v), 0, 6);
        });
        Sentences.test("Returns the transmission error.", () -> {
            GearGauge x = Bounds.rich();
            for (int g = 0; g < 3; g++) {
                for (int h = 0; h < 3; h++) {
                    int z = x.gear(h, 0);
                    for (int phase : new int[] {0, 1, z - 1}) {
                        Due.is(g + " and " + h + ", phase " + phase, x.mesh(g, h, 0, phase),
                                walked(Bounds.indices(Bounds.rich(), g, 0), Bounds.indices(Bounds.rich(), h, 0), phase));
                    }
                }
            }
        });
        Sentences.test("Throws `IndexOutOfBoundsException` if there is no such gear or flank", () -> {
            int[][] wrong = {{-1, 0, 0, 0}, {3, 0, 0, 0}, {0, -1, 0, 0}, {0, 3, 0, 0}, {0, 1, -1, 0}, {0, 1, 2, 0},
                {3, 0, 0, -1}, {0, 3, 0, -1}, {0, 1, 2, 30}, {0, 1, -1, -1}, {-1, -1, -1, -1},
                {Bounds.LEAST, 0, 0, 0}, {0, Bounds.LEAST, 0, Bounds.LEAST}, {0, 0, Bounds.LEAST, Bounds.MOST},
                {Bounds.MOST, 0, 0, 0}, {0, Bounds.MOST, 0, 0}, {0, 0, Bounds.MOST, 0}};
            for (int[] w : wrong) {
                Bounds.refused(w[0] + ", " + w[1] + ", " + w[2] + ", " + w[3], Due.BOUNDS, Bounds::rich,
                        x -> x.mesh(w[0], w[1], w[2], w[3]));
            }
            Bounds.refused("no gear at all", Due.BOUNDS, GearGauge::new, x -> x.mesh(0, 0, 0, 0));
        });
        Sentences.test("Throws `IllegalArgumentException` if phase is out of range", () -> {
            // 5 teeth for the first gear, 30 for the second one, and the other way.
            Bounds.refused(Due.ARGUMENT, Bounds::rich, (x, v) -> x.mesh(0, 1, 1, v), -1, 30, 31, Bounds.LEAST, Bounds.MOST);
            Bounds.refused(Due.ARGUMENT, Bounds::rich, (x, v) -> x.mesh(1, 0, 1, v), -1, 5, 29, Bounds.LEAST, Bounds.MOST);
        });
    }

    private static int bestOf(GearGauge x, int g, int h, int flank) {
        int[] first = Bounds.indices(x, g, flank);
        int[] second = Bounds.indices(x, h, flank);
        int best = 0;
        for (int phase = 1; phase < second.length - 1; phase++) {
            if (walked(first, second, phase) < walked(first, second, best)) {
                best = phase;
            }
        }
        return best;
    }

    private static void bestPhase() {
        Sentences.section("Promise 28: bestPhase");
        String words = "Returns the phase with the smallest transmission error of two gears, of several the lowest one.";
        Sentences.test(words, "each phase may be the best one", () -> {
            for (int z : new int[] {5, 6, 30}) {
                for (int phase = 0; phase < z; phase++) {
                    // The tooth 2 of g and the tooth 2 + phase of h make up for each other.
                    GearGauge x = Bounds.gears(z, z);
                    x.setReading(0, 0, 2, 50);
                    int opposite = (2 + phase) % z;
                    if (opposite > 0) {
                        x.setReading(1, 0, opposite, -50);
                    } else {
                        for (int i = 1; i < z; i++) {
                            x.setReading(1, 0, i, 50);
                        }
                    }
                    Due.is(phase + " of " + z, x.bestPhase(0, 1, 0), phase);
                    Due.is(phase + " of " + z + ", its error", x.mesh(0, 1, 0, phase), 0);
                }
            }
        });
        Sentences.test(words, "of several the lowest one", () -> {
            Due.is("all the same", Bounds.gears(5, 6).bestPhase(0, 1, 0), 0);
            Due.is("all the same", Bounds.gears(30, 30).bestPhase(0, 1, 1), 0);
            GearGauge x = Bounds.gears(6, 6);
            GearPromisesTest.set(x, 0, 0, 0, 9, 0, 9, 0, 9, 0);
            GearPromisesTest.set(x, 1, 0, 0, 9, 0, 9, 0, 9, 0);
            Due.is("1, 3 and 5", x.bestPhase(0, 1, 0), 1);
            GearGauge y = Bounds.gears(6, 8);
            GearPromisesTest.set(y, 0, 1, 0, 9, 0, 9, 0, 9, 0);
            GearPromisesTest.set(y, 1, 1, 0, 9, 0, 9, 0, 9, 0, 9, 0);
            Due.is("1, 3, 5 and 7", y.bestPhase(0, 1, 1), 1);
            Due.is("on the flank of zeros", y.bestPhase(0, 1, 0), 0);
        });
        Sentences.test("- `g`: number of a gear", () -> Bounds.gearNumber((x, v) -> x.bestPhase(v, 0, 0)));
        Sentences.test("- `h`: number of a gear", () -> Bounds.gearNumber((x, v) -> x.bestPhase(0, v, 0)));
        Sentences.test("- `flank`: 0 left, 1 right", () ->
                Bounds.range(Due.BOUNDS, Bounds::rich, (x, v) -> x.bestPhase(0, 1, v), 0, 1));
        Sentences.test("Returns the phase.", () -> {
            for (int[] pair : PAIRS) {
                for (int seed = 0; seed < 6; seed++) {
                    GearGauge x = Bounds.gears(pair);
                    x.fill(0, seed, 30);
                    x.fill(1, seed + 100, 30);
                    Due.is("of " + pair[0] + " and " + pair[1], x.bestPhase(0, 1, seed % 2), bestOf(x, 0, 1, seed % 2));
                }
            }
            int due = bestOf(Bounds.full(), 0, 5, 1);
            Bounds.answers("of the full object", Bounds::full, x -> x.bestPhase(0, 5, 1), due);
        });
        Sentences.test("Throws `IndexOutOfBoundsException` if there is no such gear or flank", () -> {
            int[][] wrong = {{-1, 0, 0}, {3, 0, 0}, {0, -1, 0}, {0, 3, 0}, {0, 1, -1}, {0, 1, 2}, {3, 3, 2},
                {Bounds.LEAST, 0, 0}, {0, Bounds.LEAST, 0}, {0, 0, Bounds.LEAST}, {Bounds.MOST, 0, 0},
                {0, Bounds.MOST, 0}, {0, 0, Bounds.MOST}};
            for (int[] w : wrong) {
                Bounds.refused(w[0] + ", " + w[1] + ", " + w[2], Due.BOUNDS, Bounds::rich,
                        x -> x.bestPhase(w[0], w[1], w[2]));
            }
            Bounds.refused("no gear at all", Due.BOUNDS, GearGauge::new, x -> x.bestPhase(0, 0, 0));
        });
    }

    private static void partner() {
        Sentences.section("Promise 29: partner");
        String words = "Returns the partner of a gear: ..";
        Sentences.test(words, "each other gear may be the partner", () -> {
            for (int gear = 0; gear < 6; gear++) {
                for (int best = 0; best < 6; best++) {
                    if (best != gear) {
                        // No two of these numbers have a common divisor, so no phase makes up for anything.
                        GearGauge x = Bounds.gears(5, 7, 8, 9, 11, 13);
                        for (int i = 0; i < 6; i++) {
                            if (i != best) {
                                x.setReading(i, 0, 2, 10);
                            }
                        }
                        Due.is("of gear " + gear, x.partner(gear, 0), best);
                    }
                }
            }
        });
        Sentences.test(words, "not the gear itself", () -> {
            GearGauge x = Bounds.gears(5, 5, 5);
            x.setReading(0, 0, 1, 10);
            x.setReading(2, 0, 1, 10);
            Due.is("of the only gear without an error", x.partner(1, 0), 0);
            Due.is("of another gear", x.partner(0, 0), 1);
        });
        Sentences.test(words, "at its best phase", () -> {
            // At phase 0 gear 1 is the better one; at the phase 3 gear 2 makes up for gear 0.
            GearGauge x = Bounds.gears(6, 5, 6);
            x.setReading(0, 0, 1, 50);
            x.setReading(1, 0, 1, 10);
            x.setReading(2, 0, 4, -40);
            Due.is("phase 0 of gear 1", x.mesh(0, 1, 0, 0), 60);
            Due.is("phase 0 of gear 2", x.mesh(0, 2, 0, 0), 90);
            Due.is("phase 3 of gear 2", x.mesh(0, 2, 0, 3), 10);
            Due.is("partner", x.partner(0, 0), 2);
        });
        Sentences.test(words, "with the given gear as the first one", () -> {
            for (int seed = 0; seed < 40; seed++) {
                GearGauge x = Bounds.gears(6, 8, 9, 12);
                for (int i = 0; i < 4; i++) {
                    x.fill(i, 10 * seed + i, 20);
                }
                int best = GearGauge.NONE;
                int smallest = 0;
                for (int h = 0; h < 4; h++) {
                    if (h != seed % 4) {
                        int error = x.mesh(seed % 4, h, 0, x.bestPhase(seed % 4, h, 0));
                        if (best == GearGauge.NONE || error < smallest) {
                            best = h;
                            smallest = error;
                        }
                    }
                }
                Due.is("of gear " + seed % 4, x.partner(seed % 4, 0), best);
            }
        });
        Sentences.test(words, "of several the one with the lowest number", () -> {
            GearGauge x = Bounds.gears(5, 6, 7, 8, 9, 10);
            int[] due = {1, 0, 0, 0, 0, 0};
            for (int gear = 0; gear < 6; gear++) {
                Due.is("of gear " + gear, x.partner(gear, 0), due[gear]);
            }
            x.setReading(0, 0, 1, 1);
            x.setReading(1, 0, 1, 1);
            for (int gear = 3; gear < 6; gear++) {
                Due.is("of gear " + gear, x.partner(gear, 0), 2);
            }
            Due.is("of gear 2", x.partner(2, 0), 3);
        });
        Sentences.test("- `gear`: number of a gear", () -> Bounds.gearNumber((x, v) -> x.partner(v, 0)));
        Sentences.test("- `flank`: 0 left, 1 right", () ->
                Bounds.range(Due.BOUNDS, Bounds::rich, (x, v) -> x.partner(0, v), 0, 1));
        Sentences.test("- `flank`: 0 left, 1 right", "which is which", () -> {
            GearGauge x = Bounds.gears(5, 6, 7);
            x.setReading(1, 0, 1, 3);
            x.setReading(2, 1, 1, 4);
            Due.is("left", x.partner(0, 0), 2);
            Due.is("right", x.partner(0, 1), 1);
        });
        Sentences.test("Returns the number of the partner; NONE if there is no other gear.", () -> {
            Bounds.answers("of one gear", () -> Bounds.gears(5), x -> x.partner(0, 0), GearGauge.NONE);
            Bounds.answers("of one gear", () -> Bounds.gears(30), x -> x.partner(0, 1), GearGauge.NONE);
            Bounds.answers("of two gears", () -> Bounds.gears(5, 30), x -> x.partner(0, 0), 1);
            Bounds.answers("of two gears", () -> Bounds.gears(5, 30), x -> x.partner(1, 0), 0);
            GearGauge x = Bounds.gears(5, 6);
            x.removeGear(0);
            Due.is("behind a removal", x.partner(0, 0), GearGauge.NONE);
        });
        Sentences.test("Throws `IndexOutOfBoundsException` if there is no such gear or flank", () -> {
            int[][] wrong = {{-1, 0}, {3, 0}, {0, -1}, {0, 2}, {3, 2}, {Bounds.LEAST, 0}, {Bounds.MOST, 0},
                {0, Bounds.LEAST}, {0, Bounds.MOST}};
            for (int[] w : wrong) {
                Bounds.refused(w[0] + ", " + w[1], Due.BOUNDS, Bounds::rich, x -> x.partner(w[0], w[1]));
            }
            Bounds.refused("no gear at all", Due.BOUNDS, GearGauge::new, x -> x.partner(0, 0));
            Bounds.refused("no such flank of one gear", Due.BOUNDS, () -> Bounds.gears(5), x -> x.partner(0, 2));
        });
    }

    private static void mean() {
        Sentences.section("Promise 30: mean");
        Sentences.test("Returns the mean of a deviation over all gears.", () -> {
            GearGauge y = Bounds.rich();
            for (int what = 0; what < 9; what++) {
                int w = what;
                double sum = y.deviation(0, what) + y.deviation(1, what) + y.deviation(2, what);
                Bounds.answers("deviation " + what, Bounds::rich, x -> x.mean(w), sum / 3.0);
            }
        });
        Sentences.test("- `what`: 0 to 8", () -> {
            Bounds.range(Due.ARGUMENT, Bounds::rich, (x, v) -> x.mean(v), 0, 8);
            Bounds.range(Due.ARGUMENT, GearGauge::new, (x, v) -> x.mean(v), 0, 8);
        });
        String words = "Returns the sum of the deviations, converted to double, ..";
        Sentences.test(words, "one to six gears", () -> {
            GearGauge x = new GearGauge();
            int[] sums = {7, 8, 10, 17, 17, 10017};
            int[] runouts = {7, 1, 2, 7, 0, 10000};
            for (int i = 0; i < 6; i++) {
                x.addGear(5, 1);
                x.setReading(i, 2, 1, Math.min(5000, runouts[i]));
                x.setReading(i, 2, 2, runouts[i] > 5000 ? -5000 : 0);
                Due.is("of " + (i + 1), x.mean(2), (double) sums[i] / (double) (i + 1));
                Due.is("of another deviation", x.mean(3), 0.0);
            }
        });
        Sentences.test(words, "0.0 without gears", () -> {
            for (int what = 0; what < 9; what++) {
                int w = what;
                Bounds.answers("deviation " + what, GearGauge::new, x -> x.mean(w), 0.0);
            }
            GearGauge x = Bounds.gears(5);
            x.setReading(0, 2, 1, 9);
            Due.is("with a gear", x.mean(2), 9.0);
            x.removeGear(0);
            Due.is("behind its removal", x.mean(2), 0.0);
        });
        Sentences.test("Throws `IllegalArgumentException` if what is out of range", () -> {
            Bounds.refused(Due.ARGUMENT, GearGauge::new, (x, v) -> x.mean(v), -1, 9, Bounds.LEAST, Bounds.MOST);
            Bounds.refused(Due.ARGUMENT, Bounds::full, (x, v) -> x.mean(v), -1, 9, Bounds.LEAST, Bounds.MOST);
        });
    }

    private static void hasRanks(GearGauge x, int... due) {
        for (int place = 0; place < due.length; place++) {
            Due.is("place " + place, x.ranked(place), due[place]);
        }
        Due.is("a place behind them", Due.outcome(() -> x.ranked(due.length)), Due.BOUNDS.getName());
    }

    private static void ranked() {
        Sentences.section("Promise 31: ranked");
        String words = "Ranks the gears by their classes, equal classes by the deviation 1, and these by their numbers, "
                + "in ascending order.";
        Sentences.test(words, "by their classes", () -> {
            // Runouts of the classes 13, 6, 3, 12, 1 and 5, with the deviations 1 the other way round.
            GearGauge x = Bounds.gears(5, 5, 5, 5, 5, 5);
            int[] runouts = {900, 90, 30, 800, 0, 70};
            for (int i = 0; i < 6; i++) {
                x.setReading(i, 2, 2, runouts[i]);
            }
            hasRanks(x, 4, 2, 5, 1, 3, 0);
            int[] ranges = {0, 3, 5, 1, 7, 4};
            for (int i = 0; i < 6; i++) {
                x.setReading(i, 0, 2, ranges[i]);
            }
            hasRanks(x, 4, 2, 5, 1, 3, 0);
        });
        Sentences.test(words, "equal classes by the deviation 1", () -> {
            GearGauge x = Bounds.gears(5, 5, 5, 5, 5, 5);
            int[] ranges = {5, 3, 4, 1, 2, 0};
            for (int i = 0; i < 6; i++) {
                x.setReading(i, i % 2, 2, ranges[i]);
            }
            hasRanks(x, 5, 3, 4, 1, 2, 0);
            // The deviations 0 the other way round: a rise in more steps has smaller pitches.
            GearGauge y = Bounds.gears(6, 6);
            GearPromisesTest.set(y, 0, 0, 0, 2, 4, 6, 4, 2, 0);
            GearPromisesTest.set(y, 1, 0, 0, 0, 5, 0, 0, 0, 0);
            Due.is("deviation 0 of gear 0", y.deviation(0, 0), 2);
            Due.is("deviation 0 of gear 1", y.deviation(1, 0), 5);
            hasRanks(y, 1, 0);
        });
        Sentences.test(words, "these by their numbers", () -> {
            hasRanks(Bounds.gears(30, 5, 17, 6, 29, 5), 0, 1, 2, 3, 4, 5);
            GearGauge x = Bounds.gears(5, 5, 5, 5, 5, 5);
            int[] ranges = {7, 6, 7, 6, 7, 6};
            for (int i = 0; i < 6; i++) {
                x.setReading(i, 0, 2, ranges[i]);
            }
            hasRanks(x, 1, 3, 5, 0, 2, 4);
        });
        Sentences.test("- `place`: place in the ranking, from 0", () -> {
            Bounds.range(Due.BOUNDS, Bounds::rich, (x, v) -> x.ranked(v), 0, 2);
            Bounds.range(Due.BOUNDS, Bounds::full, (x, v) -> x.ranked(v), 0, 5);
            Bounds.range(Due.BOUNDS, () -> Bounds.gears(5), (x, v) -> x.ranked(v), 0, 0);
        });
        Sentences.test("Returns the number of the gear.", () -> {
            Bounds.answers("of one", () -> Bounds.gears(5), x -> x.ranked(0), 0);
            Bounds.Make two = () -> {
                GearGauge x = Bounds.gears(5, 5);
                x.setReading(0, 2, 0, 90);
                return x;
            };
            Bounds.answers("of two", two, x -> x.ranked(0), 1);
            Bounds.answers("of two", two, x -> x.ranked(1), 0);
        });
        Sentences.test("Throws `IndexOutOfBoundsException` if there is no such place", () -> {
            Bounds.refused(Due.BOUNDS, GearGauge::new, (x, v) -> x.ranked(v), -1, 0, 1, Bounds.LEAST, Bounds.MOST);
            Bounds.refused(Due.BOUNDS, Bounds::rich, (x, v) -> x.ranked(v), -1, 3, 6, Bounds.LEAST, Bounds.MOST);
            Bounds.refused(Due.BOUNDS, Bounds::full, (x, v) -> x.ranked(v), -1, 6, Bounds.LEAST, Bounds.MOST);
        });
    }
}
