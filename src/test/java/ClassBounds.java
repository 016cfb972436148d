/** Sentences about tolerances, classes and decisions: promises 24 to 26, and the description of them. */
final class ClassBounds {
    private static final int[] CLASS_5 = {38, 128, 102, 55, 38, 44, 70, 42, 42};

    private ClassBounds() {
    }

    static void all() {
        tolerances();
        classes();
        tolerance();
        quality();
        decide();
        decideThrows();
    }

    /** A gear of 30 teeth and module 1; of its deviations only this one is above its tolerance of class 5. */
    private static GearGauge beyond(int what) {
        GearGauge x = Bounds.gears(30);
        int[][] lines = {{0, 56, 38}, {0, 20, 40}, {0, 50, 0}, {-21, 11, -20, -9, -61}, {0, 22, 44}, {0, 50, 0}};
        if (what == 0) {
            x.setReading(0, 1, 29, 50);
        } else if (what == 1) {
            for (int i = 0; i < 30; i++) {
                x.setReading(0, 0, i, 10 * Math.min(i, 30 - i));
            }
        } else if (what == 2) {
            x.setReading(0, 2, 29, -110);
        } else {
            LinePromisesTest.line(x, 0, what < 6 ? 0 : 1, lines[what - 3]);
        }
        return x;
    }

    /** A gear of 5 teeth and module 1 with this runout. */
    private static GearGauge runout(int deviation) {
        GearGauge x = Bounds.gears(5);
        int least = Math.max(-5000, -deviation);
        x.setReading(0, 2, 1, least);
        x.setReading(0, 2, 3, deviation + least);
        for (int tooth : new int[] {0, 2, 4}) {
            x.setReading(0, 2, tooth, least);
        }
        return x;
    }

    private static int[] class5(int z, int m) {
        int r = 0;
        while ((r + 1) * (r + 1) <= m * z) {
            r++;
        }
        int one = 70 + 3 * m + 11 * r;
        int three = 40 + 10 * m + r;
        int six = 60 + 2 * r;
        return new int[] {30 + 3 * m + r, one, one * 8 / 10, three, three * 7 / 10, three * 8 / 10, six, six * 6 / 10,
            six * 6 / 10};
    }

    private static GearGauge gear(int z, int m) {
        GearGauge x = new GearGauge();
        x.addGear(z, m);
        return x;
    }

    private static void tolerances() {
        Sentences.section("Description");
        Sentences.test("Let R = Root(m * z).", () -> {
            int[][] roots = {{5, 1, 2}, {8, 1, 2}, {9, 1, 3}, {5, 3, 3}, {5, 5, 5}, {5, 7, 5}, {6, 6, 6}, {8, 10, 8},
                {9, 9, 9}, {30, 20, 24}, {29, 20, 24}, {24, 19, 21}, {23, 20, 21}, {26, 20, 22}, {25, 16, 20}};
            for (int[] r : roots) {
                GearGauge x = gear(r[0], r[1]);
                Due.is("root of " + r[0] + " * " + r[1], x.tolerance(0, 0, 5), 30 + 3 * r[1] + r[2]);
                Due.is("root of " + r[0] + " * " + r[1], x.tolerance(0, 6, 5), 60 + 2 * r[2]);
            }
        });
        String words = "The tolerances of class 5 are: ..";
        for (int what = 0; what < 9; what++) {
            int w = what;
            Sentences.test(words, "tolerance " + what, () -> {
                for (int z = 5; z <= 30; z++) {
                    for (int m = 1; m <= 20; m++) {
                        Due.is("of " + z + ", " + m, gear(z, m).tolerance(0, w, 5), class5(z, m)[w]);
                    }
                }
                Due.is("of 30, 1", gear(30, 1).tolerance(0, w, 5), CLASS_5[w]);
            });
        }
        Sentences.test("From class to class, 5 to 12, a tolerance becomes the one before times 1414 / 1000, ..", () -> {
            for (int z = 5; z <= 30; z += 5) {
                for (int m = 1; m <= 20; m++) {
                    GearGauge x = gear(z, m);
                    for (int what = 0; what < 9; what++) {
                        int due = class5(z, m)[what];
                        for (int q = 5; q <= 12; q++) {
                            Due.is("tolerance " + what + " of class " + q, x.tolerance(0, what, q), due);
                            due = due * 1414 / 1000;
                        }
                        due = class5(z, m)[what];
                        for (int q = 5; q >= 1; q--) {
                            Due.is("tolerance " + what + " of class " + q, x.tolerance(0, what, q), due);
                            due = due * 1000 / 1414;
                        }
                    }
                }
            }
        });
        Sentences.test("From class to class, 5 to 12, a tolerance becomes the one before times 1414 / 1000, ..",
                "each step is rounded down", () -> {
            GearGauge x = gear(5, 1);
            // 35 * 1.414 is 49.49, 49 * 1.414 is 69.286, 69 * 1.414 is 97.566; 35 / 1.414 is 24.75, 24 / 1.414 is 16.97.
            int[] due = {7, 11, 16, 24, 35, 49, 69, 97, 137, 193, 272, 384};
            for (int q = 1; q <= 12; q++) {
                Due.is("class " + q, x.tolerance(0, 0, q), due[q - 1]);
            }
        });
    }

    private static void classes() {
        Sentences.section("Description");
        String words = "The class of a deviation is the smallest class, 1 to 12, whose tolerance is at least the deviation; ..";
        Sentences.test(words, () -> {
            for (int q = 1; q <= 12; q++) {
                int tolerance = gear(5, 1).tolerance(0, 2, q);
                Due.is("at the tolerance of " + q, runout(tolerance).quality(0, 2), q);
                Due.is("just above it", runout(tolerance + 1).quality(0, 2), q + 1);
                Due.is("just below it", runout(tolerance - 1).quality(0, 2), q);
            }
        });
        Sentences.test(words, "13 if there is none", () -> {
            int last = gear(5, 1).tolerance(0, 2, 12);
            Due.is("the last tolerance", runout(last).quality(0, 2), 12);
            Due.is("above it", runout(last + 1).quality(0, 2), 13);
            Due.is("far above it", runout(10000).quality(0, 2), 13);
        });
        Sentences.test(words, "no deviation is of class 1", () -> {
            for (int what = 0; what < 9; what++) {
                Due.is("deviation " + what, gear(30, 20).quality(0, what), 1);
            }
        });
        Sentences.test("The class of a gear is the greatest class of its deviations 0 to 8.", () -> {
            for (int what = 0; what < 9; what++) {
                GearGauge x = beyond(what);
                for (int other = 0; other < 9; other++) {
                    Due.is("class of " + other + ", beyond in " + what, x.quality(0, other) > 5, other == what);
                }
                Due.is("class of the gear by " + what, x.quality(0, GearGauge.NONE), x.quality(0, what));
                Due.is("class of the gear by " + what, x.gear(0, 3), x.quality(0, what));
            }
            Due.is("with no deviation", gear(5, 1).quality(0, GearGauge.NONE), 1);
            Due.is("with one of class 13", runout(10000).gear(0, 3), 13);
        });
    }

    private static void tolerance() {
        Sentences.section("Promise 24: tolerance");
        Sentences.test("Returns a tolerance.", () ->
                Bounds.answers("of gear 1", Bounds::rich, x -> x.tolerance(1, 3, 5), 40 + 200 + 24));
        Sentences.test("- `gear`: number of a gear", () -> Bounds.gearNumber((x, v) -> x.tolerance(v, 0, 1)));
        Sentences.test("- `what`: 0 to 8, the deviation", () ->
                Bounds.range(Due.ARGUMENT, Bounds::rich, (x, v) -> x.tolerance(0, v, 12), 0, 8));
        Sentences.test("- `quality`: class, 1 to 12", () -> {
            for (int what = 0; what < 9; what++) {
                int w = what;
                Bounds.range(Due.ARGUMENT, Bounds::rich, (x, v) -> x.tolerance(0, w, v), 1, 12);
            }
        });
        Sentences.test("Returns the tolerance.", () -> {
            GearGauge x = new GearGauge();
            x.addGear(5, 1);
            x.addGear(30, 20);
            int[] least = {7, 23, 18, 12, 8, 9, 14, 8, 8};
            int[] most = {1276, 4441, 3551, 2975, 2068, 2376, 1204, 712, 712};
            for (int what = 0; what < 9; what++) {
                Due.is("the least, " + what, x.tolerance(0, what, 1), least[what]);
                Due.is("the greatest, " + what, x.tolerance(1, what, 12), most[what]);
            }
        });
        Sentences.test("Throws `IndexOutOfBoundsException` if there is no such gear", () -> {
            int[][] wrong = {{-1, 0, 1}, {3, 0, 1}, {3, 9, 1}, {3, 0, 0}, {-1, -1, 13},
                {Bounds.LEAST, Bounds.LEAST, Bounds.LEAST}, {Bounds.MOST, 0, 1}};
            for (int[] w : wrong) {
                Bounds.refused(w[0] + ", " + w[1] + ", " + w[2], Due.BOUNDS, Bounds::rich,
                        x -> x.tolerance(w[0], w[1], w[2]));
            }
            Bounds.refused("no gear at all", Due.BOUNDS, GearGauge::new, x -> x.tolerance(0, 0, 1));
        });
        Sentences.test("Throws `IllegalArgumentException` if what or quality is out of range", () -> {
            int[][] wrong = {{-1, 1}, {9, 1}, {0, 0}, {0, 13}, {8, 13}, {-1, 0}, {9, 13}, {Bounds.LEAST, 5},
                {Bounds.MOST, 5}, {0, Bounds.LEAST}, {0, Bounds.MOST}, {0, -5}};
            for (int[] w : wrong) {
                Bounds.refused(w[0] + ", " + w[1], Due.ARGUMENT, Bounds::full, x -> x.tolerance(5, w[0], w[1]));
            }
        });
    }

    private static void quality() {
        Sentences.section("Promise 25: quality");
        Sentences.test("Returns the class of a deviation of a gear.", () ->
                Bounds.answers("of a runout of 90", () -> runout(90), x -> x.quality(0, 2), 6));
        Sentences.test("- `gear`: number of a gear", () -> {
            Bounds.gearNumber((x, v) -> x.quality(v, 0));
            Bounds.gearNumber((x, v) -> x.quality(v, GearGauge.NONE));
        });
        Sentences.test("- `what`: 0 to 8, or NONE for the class of the gear", () -> {
            Bounds.range(Due.ARGUMENT, Bounds::rich, (x, v) -> x.quality(1, v), -1, 8);
            Bounds.answers("NONE", () -> runout(90), x -> x.quality(0, GearGauge.NONE), 6);
            Bounds.answers("0", () -> runout(90), x -> x.quality(0, 0), 1);
        });
        Sentences.test("Returns the class, 1 to 13.", () -> {
            for (int what = 0; what < 9; what++) {
                GearGauge x = beyond(what);
                int due = 1;
                while (due <= 12 && x.tolerance(0, what, due) < x.deviation(0, what)) {
                    due++;
                }
                Due.is("of deviation " + what, x.quality(0, what), due);
            }
            Due.is("the least", runout(0).quality(0, GearGauge.NONE), 1);
            Due.is("the greatest", runout(10000).quality(0, GearGauge.NONE), 13);
        });
        Sentences.test("Throws `IndexOutOfBoundsException` if there is no such gear", () -> {
            int[][] wrong = {{-1, 0}, {-1, -1}, {3, 0}, {3, 9}, {3, -1}, {-1, -2}, {Bounds.LEAST, Bounds.LEAST},
                {Bounds.MOST, 0}};
            for (int[] w : wrong) {
                Bounds.refused(w[0] + ", " + w[1], Due.BOUNDS, Bounds::rich, x -> x.quality(w[0], w[1]));
            }
            Bounds.refused("no gear at all", Due.BOUNDS, GearGauge::new, x -> x.quality(0, GearGauge.NONE));
        });
        Sentences.test("Throws `IllegalArgumentException` if what is out of range", () -> Bounds.refused(Due.ARGUMENT,
                Bounds::full, (x, v) -> x.quality(5, v), -2, 9, Bounds.LEAST, Bounds.MOST));
    }

    /** The decision as the document tells it, from the deviations and tolerances. */
    private static int decision(int[] deviations, int[] tolerances, int u) {
        boolean accepted = true;
        boolean rejected = false;
        for (int what = 0; what < 9; what++) {
            accepted &= deviations[what] + u <= tolerances[what];
            rejected |= deviations[what] - u > tolerances[what];
        }
        return accepted ? 0 : rejected ? 2 : 1;
    }

    private static void decide() {
        Sentences.section("Promise 26: decide");
        String words = "Decides about a gear with a guard band u: ..";
        for (int what = 0; what < 9; what++) {
            int w = what;
            Sentences.test(words, "only the deviation " + what + " is beyond", () -> {
                GearGauge x = beyond(w);
                int excess = x.deviation(0, w) - CLASS_5[w];
                Due.is("above the tolerance", excess > 0, true);
                Due.is("minus u above its tolerance", x.decide(0, 5, excess - 1), 2);
                Due.is("minus u at its tolerance", x.decide(0, 5, excess), 1);
                Due.is("without a guard band", x.decide(0, 5, 0), 2);
            });
            Sentences.test(words, "each guard band, the deviation " + what, () -> {
                int[] deviations = new int[9];
                GearGauge y = beyond(w);
                for (int i = 0; i < 9; i++) {
                    deviations[i] = y.deviation(0, i);
                }
                for (int q = 1; q <= 12; q++) {
                    int[] tolerances = new int[9];
                    for (int i = 0; i < 9; i++) {
                        tolerances[i] = y.tolerance(0, i, q);
                    }
                    GearGauge x = beyond(w);
                    for (int u = 0; u <= 300; u++) {
                        Due.is("class " + q + ", u " + u, x.decide(0, q, u), decision(deviations, tolerances, u));
                    }
                    Due.is("class " + q + ", u 1000", x.decide(0, q, 1000), 1);
                }
            });
        }
        Sentences.test(words, "all its deviations plus u at most their tolerances", () -> {
            // The least tolerances of class 5 are 38, of the deviations 0 and 4.
            GearGauge x = Bounds.gears(30);
            Due.is("at most", x.decide(0, 5, 38), 0);
            Due.is("one too much", x.decide(0, 5, 39), 1);
            x.setReading(0, 2, 3, 102);
            Due.is("at the tolerance without a guard band", x.decide(0, 5, 0), 0);
            Due.is("at the tolerance with one", x.decide(0, 5, 1), 1);
            x.setReading(0, 2, 3, 103);
            Due.is("above the tolerance without a guard band", x.decide(0, 5, 0), 2);
            Due.is("above the tolerance with one", x.decide(0, 5, 1), 1);
        });
        Sentences.test("- `gear`: number of a gear", () -> Bounds.gearNumber((x, v) -> x.decide(v, 1, 0)));
        Sentences.test("- `quality`: class, 1 to 12", () ->
                Bounds.range(Due.ARGUMENT, Bounds::rich, (x, v) -> x.decide(0, v, 0), 1, 12));
        Sentences.test("- `u`: 0 to 1000", () ->
                Bounds.range(Due.ARGUMENT, Bounds::rich, (x, v) -> x.decide(0, 1, v), 0, 1000));
    }

    private static void decideThrows() {
        Sentences.section("Promise 26: decide");
        Sentences.test("Returns 0 if it is accepted, 2 if it is rejected, 1 otherwise.", () -> {
            Bounds.answers("accepted", () -> runout(76), x -> x.decide(0, 5, 0), 0);
            Bounds.answers("rejected", () -> runout(90), x -> x.decide(0, 5, 13), 2);
            Bounds.answers("neither", () -> runout(90), x -> x.decide(0, 5, 14), 1);
            Bounds.answers("neither, with the widest guard band", () -> runout(1076), x -> x.decide(0, 5, 1000), 1);
            Bounds.answers("rejected with the widest guard band", () -> runout(1077), x -> x.decide(0, 5, 1000), 2);
        });
        Sentences.test("Throws `IndexOutOfBoundsException` if there is no such gear", () -> {
            int[][] wrong = {{-1, 1, 0}, {3, 1, 0}, {3, 0, 0}, {3, 1, -1}, {-1, 13, 1001},
                {Bounds.LEAST, Bounds.LEAST, Bounds.LEAST}, {Bounds.MOST, 1, 0}};
            for (int[] w : wrong) {
                Bounds.refused(w[0] + ", " + w[1] + ", " + w[2], Due.BOUNDS, Bounds::rich,
                        x -> x.decide(w[0], w[1], w[2]));
            }
            Bounds.refused("no gear at all", Due.BOUNDS, GearGauge::new, x -> x.decide(0, 1, 0));
        });
        Sentences.test("Throws `IllegalArgumentException` if quality or u is out of range", () -> {
            int[][] wrong = {{0, 0}, {13, 0}, {1, -1}, {1, 1001}, {12, 1001}, {0, -1}, {13, 1001}, {-1, 0},
                {Bounds.LEAST, 0}, {Bounds.MOST, 0}, {1, Bounds.LEAST}, {1, Bounds.MOST}};
            for (int[] w : wrong) {
                Bounds.refused(w[0] + ", " + w[1], Due.ARGUMENT, Bounds::full, x -> x.decide(5, w[0], w[1]));
                // Here a deviation is beyond in each class, so that all decisions would be 2.
                Bounds.refused(w[0] + ", " + w[1], Due.ARGUMENT, () -> runout(10000), x -> x.decide(0, w[0], w[1]));
            }
        });
    }
}
