import java.util.List;

/** Sentences about profile and helix lines: promises 16 to 23, and the description of lines. */
final class LineBounds {
    private LineBounds() {
    }

    static void all() {
        description();
        bestLine();
        deviations();
        addLine();
        addPoint();
        removeLine();
        lines();
        line();
        point();
        lineDeviation();
        best();
    }

    /** A gauge with one line. */
    private static GearGauge of(int... points) {
        GearGauge x = Bounds.gears(5);
        LinePromisesTest.line(x, 0, 0, points);
        return x;
    }

    /** Ten lines of three points. */
    private static GearGauge ten() {
        GearGauge x = Bounds.gears(5);
        for (int i = 0; i < 10; i++) {
            LinePromisesTest.line(x, 0, i % 2, 1, 2, i);
        }
        return x;
    }

    private static final int[] NONE = {};
    private static final int[] TWELVE = {1, 2, 3, 4, 5, 6, 7, 8, 9, 10, 11, 12};

    private static void description() {
        Sentences.section("Description");
        Sentences.test("There are at most 10 lines, numbered from 0.", () -> {
            GearGauge x = Bounds.gears(5, 6);
            for (int i = 0; i < 10; i++) {
                Due.is("number", x.addLine(i % 2, i / 5), i);
                x.addPoint(i, 100 + i);
            }
            for (int i = 0; i < 10; i++) {
                Due.is("gear of line " + i, x.line(i, 0), i % 2);
                Due.is("kind of line " + i, x.line(i, 1), i / 5);
                Due.is("point of line " + i, x.point(i, 0), 100 + i);
            }
            for (int gear = 0; gear < 6; gear++) {
                int g = gear;
                Bounds.refused("an eleventh", Due.STATE, Bounds::full, y -> y.addLine(g, 0));
            }
        });
        String words = "A line belongs to a gear; it is a profile line (kind 0) or a helix line (kind 1), ..";
        Sentences.test(words, "3 to 12 points", () -> {
            for (int points = 0; points <= 12; points++) {
                GearGauge x = of();
                for (int i = 0; i < points; i++) {
                    x.addPoint(0, 0);
                }
                boolean few = points < 3;
                for (int what = 0; what < 3; what++) {
                    int w = what;
                    Object got = Due.outcome(() -> x.lineDeviation(0, w));
                    Due.is("of " + points + " points", got, few ? Due.STATE.getName() : (Object) 0);
                }
            }
            Bounds.refused("a thirteenth", Due.STATE, () -> of(TWELVE), x -> x.addPoint(0, 0));
        });
        Sentences.test(words, "deviations from -5000 to 5000", () ->
                Bounds.range(Due.ARGUMENT, () -> of(NONE), (x, v) -> x.addPoint(0, v), -5000, 5000));
        Sentences.test(words, "its gear and kind", () -> {
            GearGauge x = Bounds.gears(5, 5);
            for (int i = 0; i < 4; i++) {
                LinePromisesTest.line(x, i / 2, i % 2, 0, 0, 10 + i);
            }
            int[] due = {10, 11, 12, 13};
            for (int i = 0; i < 4; i++) {
                Due.is("total of gear " + i / 2 + ", kind " + i % 2, x.deviation(i / 2, 3 + 3 * (i % 2)), due[i]);
            }
        });
        Sentences.test("Its total deviation is the greatest minus the smallest y.", () -> {
            int[][] lines = {{3, 2, 1}, {1, 2, 3}, {-3, -2, -7}, {5000, -5000, 5000}, {-5000, -5000, -5000},
                {0, 0, 0, 0, 0, 0, 0, 0, 0, 0, 0, 9}, {9, 0, 0, 0, 0, 0, 0, 0, 0, 0, 0, 0},
                {4, 4, 4, 4, 4, 4, 4, 4, 4, 4, 5000, -5000}};
            int[] due = {2, 2, 5, 10000, 0, 9, 9, 10000};
            for (int i = 0; i < lines.length; i++) {
                Due.is("total " + i, of(lines[i]).lineDeviation(0, 0), due[i]);
            }
        });
    }

    /** A line of n points, some of them at both ends of their range. */
    private static int[] points(int n, int seed) {
        int[] y = new int[n];
        long s = seed;
        for (int i = 0; i < n; i++) {
            s = (s * 1103515245L + 12345L) % 2147483648L;
            int v = (int) (s / 65536 % 12001) - 6000;
            y[i] = seed % 3 == 0 ? v % 10 : Math.max(-5000, Math.min(5000, v));
        }
        return y;
    }

    /** The numbers of x, their sum and that of their squares. */
    private static long[] sums(int n) {
        long sum = 0;
        long squares = 0;
        for (int x = 0; x < n; x++) {
            sum += x;
            squares += x * x;
        }
        return new long[] {n, sum, squares};
    }

    private static void bestLine() {
        Sentences.section("Description");
        String words = "Its best line is the straight line a + b * x with the smallest sum of squares ..";
        Sentences.test(words, () -> {
            for (int n = 3; n <= 12; n++) {
                for (int seed = 0; seed < 120; seed++) {
                    int[] y = points(n, 100 * n + seed);
                    GearGauge x = of(y);
                    long a = x.best(0, false, 0);
                    long aq = x.best(0, false, 1);
                    long b = x.best(0, true, 0);
                    long bq = x.best(0, true, 1);
                    long sumY = 0;
                    long sumXY = 0;
                    for (int i = 0; i < n; i++) {
                        sumY += y[i];
                        sumXY += (long) i * y[i];
                    }
                    long[] s = sums(n);
                    // The sum of squares is smallest where the rests, and the rests times x, add up to 0.
                    Due.is("the rests of " + n, s[0] * a * bq + s[1] * b * aq, sumY * aq * bq);
                    Due.is("the rests of " + n + " times x", s[1] * a * bq + s[2] * b * aq, sumXY * aq * bq);
                }
            }
        });
        Sentences.test(words, "x = 0 for the first point", () -> {
            GearGauge x = of(7, 10, 13);
            Due.is("a", x.best(0, false, 0), 7);
            Due.is("b", x.best(0, true, 0), 3);
        });
    }

    private static void deviations() {
        Sentences.section("Description");
        String words = "Its slope deviation is Round(b * (n - 1)) for n points; ..";
        Sentences.test(words, "with the exact fractions", () -> {
            for (int n = 3; n <= 12; n++) {
                for (int seed = 0; seed < 120; seed++) {
                    int[] y = points(n, 77 * n + seed);
                    GearGauge x = of(y);
                    long a = x.best(0, false, 0);
                    long aq = x.best(0, false, 1);
                    long b = x.best(0, true, 0);
                    long bq = x.best(0, true, 1);
                    Due.is("slope of " + n, x.lineDeviation(0, 1), Bounds.round(b * (n - 1), bq));
                    long most = Long.MIN_VALUE;
                    long least = Long.MAX_VALUE;
                    for (int i = 0; i < n; i++) {
                        long rest = y[i] * aq * bq - a * bq - b * i * aq;
                        most = Math.max(most, rest);
                        least = Math.min(least, rest);
                    }
                    Due.is("form of " + n, x.lineDeviation(0, 2), Bounds.round(most - least, aq * bq));
                }
            }
        });
        Sentences.test(words, "a slope in the middle of two whole numbers", () -> {
            // For four points b * 3 is 3 * (3 * (y3 - y0) + y2 - y1) / 10.
            int[][] lines = {{0, 0, 5, 0, 2}, {0, 5, 0, 0, -1}, {0, 0, 0, 5, 5}, {5, 0, 0, 0, -4}, {0, 0, 2, 1, 2},
                {1, 2, 0, 0, -1}};
            for (int[] l : lines) {
                Due.is("slope", of(l[0], l[1], l[2], l[3]).lineDeviation(0, 1), l[4]);
            }
        });
        Sentences.test(words, "a slope beside the middle of two whole numbers", () -> {
            int[][] lines = {{0, 0, 1, 1, 1}, {0, 0, 2, 0, 1}, {0, 0, 1, 0, 0}, {0, 1, 0, 0, 0}, {0, 2, 0, 0, -1},
                {1, 1, 0, 0, -1}, {0, 0, 0, 1, 1}, {1, 0, 0, 0, -1}, {0, 1, 0, 2, 2}, {2, 0, 1, 0, -2},
                {0, 0, 0, 2, 2}, {2, 0, 0, 0, -2}};
            // Times ten: 12, 6, 3, -3, -6, -12, 9, -9, 15, -15, 18, -18.
            int[] due = {1, 1, 0, 0, -1, -1, 1, -1, 2, -1, 2, -2};
            for (int i = 0; i < lines.length; i++) {
                int[] l = lines[i];
                Due.is("slope " + i, of(l[0], l[1], l[2], l[3]).lineDeviation(0, 1), due[i]);
            }
        });
        Sentences.test(words, "a form in the middle of two whole numbers", () -> {
            // For three points the form is half of |y0 - 2 * y1 + y2|.
            int[][] lines = {{0, 0, 1, 1}, {0, 0, -1, 1}, {0, 0, 3, 2}, {0, 1, -1, 2}, {0, 0, 9999 - 5000, 2500},
                {5000, -5000, 4999, 10000}, {0, 0, 0, 0}, {0, 1, 0, 1}};
            for (int[] l : lines) {
                Due.is("form", of(l[0], l[1], l[2]).lineDeviation(0, 2), l[3]);
            }
        });
        Sentences.test(words, "a form beside the middle of two whole numbers", () -> {
            // 7 tenths and 14 tenths.
            Due.is("form", of(0, 0, 0, 1).lineDeviation(0, 2), 1);
            Due.is("form", of(0, 0, 0, 2).lineDeviation(0, 2), 1);
            // A point in the middle of seven: its rest is 6 sevenths, the others are -1 seventh.
            Due.is("form", of(0, 0, 0, 1, 0, 0, 0).lineDeviation(0, 2), 1);
            // 156 and 159 of 105: the nearest to one and a half that there are.
            Due.is("form", of(-1, 0, 0, 1, 0, 0).lineDeviation(0, 2), 1);
            Due.is("form", of(-1, -1, 0, 1, 0, 0).lineDeviation(0, 2), 2);
        });
        Sentences.test(words, "the greatest there is", () -> {
            GearGauge x = of(-5000, -5000, -5000, -5000, -5000, -5000, 5000, 5000, 5000, 5000, 5000, 5000);
            // b is 180000 / 143.
            Due.is("slope", x.lineDeviation(0, 1), Bounds.round(180000L * 11, 143));
            Due.is("form", x.lineDeviation(0, 2), Bounds.round(10000L * 143 - 180000, 143));
            GearGauge y = of(5000, 5000, 5000, 5000, 5000, 5000, -5000, -5000, -5000, -5000, -5000, -5000);
            Due.is("slope", y.lineDeviation(0, 1), Bounds.round(-180000L * 11, 143));
            Due.is("form", y.lineDeviation(0, 2), Bounds.round(10000L * 143 - 180000, 143));
        });
        Sentences.section("Promise 17: addPoint");
        Sentences.test("(A line with fewer than 3 points does not count for the deviations of its gear.)", () -> {
            for (int kind = 0; kind < 2; kind++) {
                GearGauge x = Bounds.gears(5);
                x.addLine(0, kind);
                for (int points = 0; points < 3; points++) {
                    for (int what = 0; what < 9; what++) {
                        Due.is("deviation " + what + " with " + points, x.deviation(0, what), 0);
                        Due.is("mean " + what + " with " + points, x.mean(what), 0.0);
                    }
                    Due.is("class with " + points, x.quality(0, GearGauge.NONE), 1);
                    Due.is("decision with " + points, x.decide(0, 1, 0), 0);
                    x.addPoint(0, points % 2 == 0 ? -5000 : 5000);
                }
                Due.is("total with 3", x.deviation(0, 3 + 3 * kind), 10000);
                Due.is("form with 3", x.deviation(0, 5 + 3 * kind), 10000);
                Due.is("class with 3", x.quality(0, GearGauge.NONE), 13);
                Due.is("decision with 3", x.decide(0, 12, 1000), 2);
            }
        });
    }

    private static void addLine() {
        Sentences.section("Promise 16: addLine");
        Sentences.test("Adds a line without points.", () -> {
            GearGauge x = Bounds.gears(5);
            LinePromisesTest.line(x, 0, 1, 5, 6, 7);
            List<Object> before = Bounds.contents(x);
            x.addLine(0, 0);
            Due.is("what was there", Bounds.contents(x).subList(0, before.size()), before);
            Due.is("points", x.line(1, 2), 0);
            Due.is("no point", Due.outcome(() -> x.point(1, 0)), Due.BOUNDS.getName());
        });
        Sentences.test("Adds a line without points.", "where a line has been before", () -> {
            for (int way = 0; way < 3; way++) {
                GearGauge x = Bounds.gears(5, 5);
                LinePromisesTest.line(x, 1, 1, 3, 1, 4, 1, 5);
                if (way == 0) {
                    x.removeLine(0);
                } else if (way == 1) {
                    x.removeGear(1);
                } else {
                    for (int i = 0; i < 3; i++) {
                        x.undo();
                    }
                    x.removeLine(0);
                }
                Due.is("number", x.addLine(0, 0), 0);
                Due.is("points", x.line(0, 2), 0);
                Due.is("gear", x.line(0, 0), 0);
                Due.is("kind", x.line(0, 1), 0);
                x.addPoint(0, 2);
                x.addPoint(0, 4);
                x.addPoint(0, 6);
                Due.is("a", x.best(0, false, 0), 2);
                Due.is("b", x.best(0, true, 0), 2);
                Due.is("total", x.lineDeviation(0, 0), 4);
                Due.is("form", x.lineDeviation(0, 2), 0);
            }
        });
        Sentences.test("Undoable.", () -> {
            Bounds.undoable(x -> x.addLine(0, 0));
            Bounds.undoable(x -> x.addLine(2, 1));
        });
        Sentences.test("- `gear`: number of a gear", () -> {
            Bounds.range(Due.BOUNDS, Bounds::rich, (x, v) -> x.addLine(v, 0), 0, 2);
            Bounds.refused(Due.BOUNDS, Bounds::full, (x, v) -> x.addLine(v, 0), -1, 6, Bounds.LEAST, Bounds.MOST);
            Bounds.refused(Due.BOUNDS, GearGauge::new, (x, v) -> x.addLine(v, 0), -1, 0);
        });
        Sentences.test("- `kind`: 0 profile, 1 helix", () ->
                Bounds.range(Due.ARGUMENT, Bounds::rich, (x, v) -> x.addLine(0, v), 0, 1));
        Sentences.test("Returns the number of the line.", () -> {
            GearGauge x = Bounds.gears(5, 5);
            for (int i = 0; i < 10; i++) {
                Due.is("number", x.addLine(i % 2, i % 2), i);
            }
            x.removeLine(4);
            Due.is("number behind a removal", x.addLine(0, 0), 9);
            x.removeGear(1);
            Due.is("number behind the removal of a gear", x.addLine(0, 0), 5);
            x.undo();
            Due.is("number behind undo", x.addLine(0, 0), 5);
        });
        Sentences.test("Throws `IndexOutOfBoundsException` if there is no such gear", () -> {
            int[][] wrong = {{-1, 0}, {6, 0}, {6, 2}, {-1, -1}, {Bounds.LEAST, Bounds.LEAST}, {Bounds.MOST, 0}};
            for (int[] w : wrong) {
                // In a full object there is no room for a line, too.
                Bounds.refused(w[0] + ", " + w[1], Due.BOUNDS, Bounds::full, x -> x.addLine(w[0], w[1]));
                Bounds.refused(w[0] + ", " + w[1], Due.BOUNDS, Bounds::rich, x -> x.addLine(w[0], w[1]));
                Bounds.refused(w[0] + ", " + w[1], Due.BOUNDS, GearGauge::new, x -> x.addLine(w[0], w[1]));
            }
        });
        Sentences.test("Throws `IllegalArgumentException` if kind is out of range", () -> {
            Bounds.refused(Due.ARGUMENT, Bounds::rich, (x, v) -> x.addLine(0, v), -1, 2, Bounds.LEAST, Bounds.MOST);
            Bounds.refused(Due.ARGUMENT, Bounds::full, (x, v) -> x.addLine(0, v), -1, 2, Bounds.LEAST, Bounds.MOST);
        });
        Sentences.test("Throws `IllegalStateException` if there are 10 lines", () -> {
            for (int kind = 0; kind < 2; kind++) {
                int k = kind;
                Bounds.refused("an eleventh", Due.STATE, Bounds::full, x -> x.addLine(0, k));
            }
            GearGauge x = Bounds.full();
            x.removeLine(9);
            Due.is("a tenth", x.addLine(0, 0), 9);
            Due.is("an eleventh", Due.outcome(() -> x.addLine(0, 0)), Due.STATE.getName());
            x.undo();
            Due.is("a tenth again", x.addLine(0, 0), 9);
        });
    }

    private static void addPoint() {
        Sentences.section("Promise 17: addPoint");
        Sentences.test("Appends a point to a line.", () -> {
            GearGauge x = Bounds.gears(5);
            LinePromisesTest.line(x, 0, 0, 1, 2);
            LinePromisesTest.line(x, 0, 0, 3, 4);
            List<Object> due = Bounds.contents(x);
            due.add(due.size() - 3, 77);
            x.addPoint(0, 77);
            Due.is("all points", Bounds.contents(x), due);
        });
        Sentences.test("Undoable.", () -> {
            for (int line = 0; line < 3; line++) {
                int l = line;
                Bounds.undoable(x -> x.addPoint(l, 8));
            }
        });
        Sentences.test("- `line`: number of a line", () -> {
            Bounds.range(Due.BOUNDS, LineBounds::ten, (x, v) -> x.addPoint(v, 1), 0, 9);
            Bounds.refused(Due.BOUNDS, Bounds::full, (x, v) -> x.addPoint(v, 1), -1, 10, Bounds.LEAST, Bounds.MOST);
            Bounds.refused(Due.BOUNDS, Bounds::rich, (x, v) -> x.addPoint(v, 1), -1, 4, Bounds.LEAST, Bounds.MOST);
            Bounds.refused(Due.BOUNDS, () -> Bounds.gears(5), (x, v) -> x.addPoint(v, 1), -1, 0, 1);
        });
        Sentences.test("- `value`: -5000 to 5000", () ->
                Bounds.range(Due.ARGUMENT, Bounds::full, (x, v) -> x.addPoint(9, v), -5000, 5000));
        Sentences.test("Returns the number of its points.", () -> {
            GearGauge x = of(NONE);
            x.addLine(0, 1);
            for (int i = 1; i <= 12; i++) {
                Due.is("of line 0", x.addPoint(0, i), i);
            }
            Due.is("of line 1", x.addPoint(1, 0), 1);
            x.undo();
            x.undo();
            Due.is("behind undo", x.addPoint(0, 0), 12);
        });
        Sentences.test("Throws `IndexOutOfBoundsException` if there is no such line", () -> {
            int[][] wrong = {{-1, 0}, {10, 0}, {10, 5001}, {-1, -5001}, {Bounds.LEAST, Bounds.LEAST}, {Bounds.MOST, 0}};
            for (int[] w : wrong) {
                Bounds.refused(w[0] + ", " + w[1], Due.BOUNDS, Bounds::full, x -> x.addPoint(w[0], w[1]));
                Bounds.refused(w[0] + ", " + w[1], Due.BOUNDS, GearGauge::new, x -> x.addPoint(w[0], w[1]));
            }
            Bounds.refused("behind the last", Due.BOUNDS, Bounds::rich, x -> x.addPoint(4, 0));
            Bounds.refused("behind the last, and a wrong value", Due.BOUNDS, Bounds::rich, x -> x.addPoint(4, 5001));
        });
        Sentences.test("Throws `IllegalArgumentException` if value is out of range", () -> {
            int[] wrong = {-5001, 5001, Bounds.LEAST, Bounds.MOST};
            Bounds.refused(Due.ARGUMENT, Bounds::rich, (x, v) -> x.addPoint(1, v), wrong);
            // The line 3 of the rich object and the line 0 of the full one have 12 points.
            Bounds.refused(Due.ARGUMENT, Bounds::rich, (x, v) -> x.addPoint(3, v), wrong);
            Bounds.refused(Due.ARGUMENT, Bounds::full, (x, v) -> x.addPoint(0, v), wrong);
        });
        Sentences.test("Throws `IllegalStateException` if it has 12 points", () -> {
            Bounds.refused(Due.STATE, Bounds::rich, (x, v) -> x.addPoint(3, v), 0, -5000, 5000);
            Bounds.refused(Due.STATE, Bounds::full, (x, v) -> x.addPoint(0, v), 0, -5000, 5000);
            GearGauge x = Bounds.full();
            Due.is("another line", x.addPoint(1, 0), 4);
            x.undo();
            GearGauge y = of(1, 2, 3, 4, 5, 6, 7, 8, 9, 10, 11);
            Due.is("the twelfth", y.addPoint(0, 12), 12);
            Due.is("a thirteenth", Due.outcome(() -> y.addPoint(0, 13)), Due.STATE.getName());
        });
    }

    private static void removeLine() {
        Sentences.section("Promise 18: removeLine");
        Sentences.test("Removes a line; the numbers of those behind it decrease by 1.", () -> {
            for (int count = 1; count <= 10; count++) {
                for (int line = 0; line < count; line++) {
                    GearGauge x = Bounds.gears(5, 6);
                    for (int i = 0; i < count; i++) {
                        LinePromisesTest.line(x, i % 2, i / 2 % 2, 100 + i, 0);
                    }
                    x.removeLine(line);
                    Due.is("lines", x.lines(), count - 1);
                    for (int i = 0; i < count - 1; i++) {
                        int was = i < line ? i : i + 1;
                        Due.is("line " + i + " without " + line, x.point(i, 0), 100 + was);
                        Due.is("gear of line " + i, x.line(i, 0), was % 2);
                        Due.is("kind of line " + i, x.line(i, 1), was / 2 % 2);
                    }
                }
            }
        });
        Sentences.test("Undoable.", () -> {
            for (int line = 0; line < 4; line++) {
                int l = line;
                Bounds.undoable(x -> x.removeLine(l));
            }
        });
        Sentences.test("- `line`: number of a line", () -> Bounds.lineNumber((x, v) -> x.removeLine(v)));
        Sentences.test("Returns the number of lines that are left.", () -> {
            GearGauge x = Bounds.full();
            for (int left = 9; left >= 0; left--) {
                Due.is("left", x.removeLine(left / 2), left);
            }
        });
        Sentences.test("Throws `IndexOutOfBoundsException` if there is no such line", () -> {
            Bounds.refused(Due.BOUNDS, Bounds::full, (x, v) -> x.removeLine(v), -1, 10, Bounds.LEAST, Bounds.MOST);
            Bounds.refused(Due.BOUNDS, Bounds::rich, (x, v) -> x.removeLine(v), -1, 4, Bounds.LEAST, Bounds.MOST);
            Bounds.refused(Due.BOUNDS, () -> Bounds.gears(5), (x, v) -> x.removeLine(v), -1, 0);
        });
    }

    private static void lines() {
        Sentences.section("Promise 19: lines");
        Sentences.test("Returns the number of lines.", () -> {
            Bounds.answers("of a rich object", Bounds::rich, x -> x.lines(), 4);
            GearGauge x = Bounds.full();
            x.removeLine(2);
            Due.is("behind a removal", x.lines(), 9);
            x.undo();
            Due.is("behind undo", x.lines(), 10);
        });
        Sentences.test("Returns 0 to 10.", () -> {
            Bounds.answers("of a new object", GearGauge::new, x -> x.lines(), 0);
            Bounds.answers("of a gear without lines", () -> Bounds.gears(5), x -> x.lines(), 0);
            Bounds.answers("of a full object", Bounds::full, x -> x.lines(), 10);
            GearGauge x = Bounds.full();
            Due.outcome(() -> x.addLine(0, 0));
            Due.is("behind an eleventh that is refused", x.lines(), 10);
        });
    }

    private static void line() {
        Sentences.section("Promise 20: line");
        Sentences.test("Returns something about a line.", () -> {
            int[] due = {2, 0, 12};
            for (int what = 0; what < 3; what++) {
                int w = what;
                Bounds.answers("of line 3, " + what, Bounds::rich, x -> x.line(3, w), due[what]);
            }
        });
        Sentences.test("- `line`: number of a line", () -> Bounds.lineNumber((x, v) -> x.line(v, 2)));
        Sentences.test("- `what`: 0 its gear, 1 its kind, 2 the number of its points", () -> {
            for (int line = 0; line < 4; line++) {
                int l = line;
                Bounds.range(Due.ARGUMENT, Bounds::rich, (x, v) -> x.line(l, v), 0, 2);
            }
        });
        Sentences.test("- `what`: 0 its gear, 1 its kind, 2 the number of its points", "the least and the greatest",
                () -> {
            GearGauge x = Bounds.gears(5, 5, 5, 5, 5, 5);
            LinePromisesTest.line(x, 0, 0);
            LinePromisesTest.line(x, 5, 1, TWELVE);
            int[] most = {5, 1, 12};
            for (int what = 0; what < 3; what++) {
                Due.is("the least, " + what, x.line(0, what), 0);
                Due.is("the greatest, " + what, x.line(1, what), most[what]);
            }
        });
        Sentences.test("Returns that value.", () -> {
            int[][] due = {{0, 0, 3}, {2, 1, 0}, {1, 1, 2}, {2, 0, 12}};
            GearGauge x = Bounds.rich();
            for (int line = 0; line < 4; line++) {
                for (int what = 0; what < 3; what++) {
                    Due.is("of line " + line + ", " + what, x.line(line, what), due[line][what]);
                }
            }
        });
        Sentences.test("Throws `IndexOutOfBoundsException` if there is no such line", () -> {
            int[][] wrong = {{-1, 0}, {4, 0}, {4, 3}, {-1, -1}, {Bounds.LEAST, Bounds.LEAST}, {Bounds.MOST, 2}};
            for (int[] w : wrong) {
                Bounds.refused(w[0] + ", " + w[1], Due.BOUNDS, Bounds::rich, x -> x.line(w[0], w[1]));
                Bounds.refused(w[0] + ", " + w[1], Due.BOUNDS, () -> Bounds.gears(5), x -> x.line(w[0], w[1]));
            }
        });
        Sentences.test("Throws `IllegalArgumentException` if what is out of range", () -> Bounds.refused(Due.ARGUMENT,
                Bounds::full, (x, v) -> x.line(9, v), -1, 3, Bounds.LEAST, Bounds.MOST));
    }

    private static void point() {
        Sentences.section("Promise 21: point");
        Sentences.test("Returns a point of a line.", () -> {
            Bounds.answers("the first", Bounds::rich, x -> x.point(3, 0), 1);
            Bounds.answers("the last", Bounds::rich, x -> x.point(3, 11), 2);
        });
        Sentences.test("- `line`: number of a line", () -> {
            Bounds.range(Due.BOUNDS, () -> {
                GearGauge x = Bounds.rich();
                x.addPoint(1, 5);
                return x;
            }, (x, v) -> x.point(v, 0), 0, 3);
            Bounds.refused(Due.BOUNDS, Bounds::full, (x, v) -> x.point(v, 0), -1, 10, Bounds.LEAST, Bounds.MOST);
            Bounds.refused(Due.BOUNDS, () -> Bounds.gears(5), (x, v) -> x.point(v, 0), -1, 0);
        });
        Sentences.test("- `point`: index of the point, from 0", () -> {
            Bounds.range(Due.BOUNDS, Bounds::rich, (x, v) -> x.point(0, v), 0, 2);
            Bounds.range(Due.BOUNDS, Bounds::rich, (x, v) -> x.point(2, v), 0, 1);
            Bounds.range(Due.BOUNDS, Bounds::rich, (x, v) -> x.point(3, v), 0, 11);
            Bounds.refused(Due.BOUNDS, Bounds::rich, (x, v) -> x.point(1, v), -1, 0, 1, Bounds.LEAST, Bounds.MOST);
        });
        Sentences.test("Returns its deviation.", () -> {
            int[] y = {-5000, 5000, 0, 1, -1, 6, 7, 8, 9, 10, 11, 4999};
            GearGauge x = of(y);
            for (int i = 0; i < 12; i++) {
                Due.is("point " + i, x.point(0, i), y[i]);
            }
        });
        Sentences.test("Throws `IndexOutOfBoundsException` if there is no such line or point", () -> {
            int[][] wrong = {{-1, 0}, {4, 0}, {0, -1}, {0, 3}, {1, 0}, {3, 12}, {-1, -1}, {4, 12},
                {Bounds.LEAST, Bounds.LEAST}, {Bounds.MOST, Bounds.MOST}, {0, Bounds.LEAST}, {0, Bounds.MOST}};
            for (int[] w : wrong) {
                Bounds.refused(w[0] + ", " + w[1], Due.BOUNDS, Bounds::rich, x -> x.point(w[0], w[1]));
            }
            GearGauge x = of(1, 2);
            x.undo();
            Due.is("a point that undo took", Due.outcome(() -> x.point(0, 1)), Due.BOUNDS.getName());
        });
    }

    private static void lineDeviation() {
        Sentences.section("Promise 22: lineDeviation");
        int[] due = {53, 36, 35};
        Sentences.test("Returns a deviation of a line.", () -> {
            for (int what = 0; what < 3; what++) {
                int w = what;
                Bounds.answers("of three points, " + what, () -> of(0, 53, 36), x -> x.lineDeviation(0, w), due[what]);
            }
        });
        Sentences.test("- `line`: number of a line", () -> {
            Bounds.range(Due.BOUNDS, LineBounds::ten, (x, v) -> x.lineDeviation(v, 0), 0, 9);
            Bounds.refused(Due.BOUNDS, Bounds::rich, (x, v) -> x.lineDeviation(v, 0), -1, 4);
            Bounds.refused(Due.BOUNDS, () -> Bounds.gears(5), (x, v) -> x.lineDeviation(v, 0), -1, 0);
        });
        Sentences.test("- `what`: 0 its total deviation, 1 its slope deviation, 2 its form deviation", () -> {
            Bounds.range(Due.ARGUMENT, Bounds::rich, (x, v) -> x.lineDeviation(0, v), 0, 2);
            Bounds.range(Due.ARGUMENT, Bounds::rich, (x, v) -> x.lineDeviation(3, v), 0, 2);
        });
        Sentences.test("Returns that deviation.", () -> {
            for (int what = 0; what < 3; what++) {
                Due.is("of three points, " + what, of(0, 53, 36).lineDeviation(0, what), due[what]);
            }
            Due.is("a slope below 0", of(36, 53, 0).lineDeviation(0, 1), -36);
        });
        Sentences.test("Throws `IndexOutOfBoundsException` if there is no such line", () -> {
            int[][] wrong = {{-1, 0}, {4, 0}, {4, 3}, {-1, -1}, {Bounds.LEAST, Bounds.LEAST}, {Bounds.MOST, 2}};
            for (int[] w : wrong) {
                Bounds.refused(w[0] + ", " + w[1], Due.BOUNDS, Bounds::rich, x -> x.lineDeviation(w[0], w[1]));
                Bounds.refused(w[0] + ", " + w[1], Due.BOUNDS, () -> Bounds.gears(5),
                        x -> x.lineDeviation(w[0], w[1]));
            }
        });
        Sentences.test("Throws `IllegalArgumentException` if what is out of range", () -> {
            int[] wrong = {-1, 3, Bounds.LEAST, Bounds.MOST};
            // The lines have 3, 0, 2 and 12 points.
            for (int line = 0; line < 4; line++) {
                int l = line;
                Bounds.refused(Due.ARGUMENT, Bounds::rich, (x, v) -> x.lineDeviation(l, v), wrong);
            }
        });
        Sentences.test("Throws `IllegalStateException` if it has fewer than 3 points", () -> {
            int[][] few = {{}, {5}, {5, 6}};
            for (int[] points : few) {
                Bounds.refused(Due.STATE, () -> of(points), (x, v) -> x.lineDeviation(0, v), 0, 1, 2);
            }
            GearGauge x = of(5, 6);
            Due.is("with 2 points", Due.outcome(() -> x.lineDeviation(0, 0)), Due.STATE.getName());
            x.addPoint(0, 7);
            Due.is("with 3 points", x.lineDeviation(0, 0), 2);
            x.undo();
            Due.is("with 2 points again", Due.outcome(() -> x.lineDeviation(0, 0)), Due.STATE.getName());
        });
    }

    private static long divisor(long a, long b) {
        return b == 0 ? Math.abs(a) : divisor(b, a % b);
    }

    private static void isBest(int[] y, long a, long aq, long b, long bq) {
        GearGauge x = of(y);
        Due.is("numerator of a", x.best(0, false, 0), a);
        Due.is("denominator of a", x.best(0, false, 1), aq);
        Due.is("numerator of b", x.best(0, true, 0), b);
        Due.is("denominator of b", x.best(0, true, 1), bq);
    }

    private static void best() {
        Sentences.section("Promise 23: best");
        Sentences.test("Returns a coefficient of the best line as a fraction in lowest terms.", () -> {
            for (int n = 3; n <= 12; n++) {
                for (int seed = 0; seed < 20; seed++) {
                    GearGauge x = of(points(n, 31 * n + seed));
                    for (int i = 0; i < 2; i++) {
                        long p = x.best(0, i == 0, 0);
                        long q = x.best(0, i == 0, 1);
                        Due.is("common divisor of " + p + " and " + q, divisor(p, q), 1);
                        Due.is("above 0: " + q, q > 0, true);
                    }
                }
            }
        });
        Sentences.test("- `line`: number of a line", () -> {
            Bounds.range(Due.BOUNDS, LineBounds::ten, (x, v) -> x.best(v, true, 0), 0, 9);
            Bounds.refused(Due.BOUNDS, Bounds::rich, (x, v) -> x.best(v, false, 1), -1, 4);
            Bounds.refused(Due.BOUNDS, () -> Bounds.gears(5), (x, v) -> x.best(v, true, 0), -1, 0);
        });
        Sentences.test("- `slope`: true for b, false for a", () -> {
            isBest(new int[] {7, 10, 13}, 7, 1, 3, 1);
            isBest(new int[] {-7, -10, -13}, -7, 1, -3, 1);
        });
        String part = "- `part`: 0 for the numerator, 1 for the denominator (above 0; 0 is 0 / 1)";
        Sentences.test(part, () -> {
            Bounds.range(Due.ARGUMENT, Bounds::rich, (x, v) -> x.best(0, true, v), 0, 1);
            Bounds.range(Due.ARGUMENT, Bounds::rich, (x, v) -> x.best(3, false, v), 0, 1);
        });
        Sentences.test(part, "above 0", () -> {
            isBest(new int[] {0, 0, 1}, -1, 6, 1, 2);
            isBest(new int[] {0, 0, -1}, 1, 6, -1, 2);
            isBest(new int[] {1, 0, 0}, 5, 6, -1, 2);
            isBest(new int[] {-1, 0, 0}, -5, 6, 1, 2);
        });
        Sentences.test(part, "0 is 0 / 1", () -> {
            isBest(new int[] {0, 0, 0}, 0, 1, 0, 1);
            isBest(new int[] {0, 1, 2}, 0, 1, 1, 1);
            isBest(new int[] {5, 5, 5}, 5, 1, 0, 1);
            isBest(new int[] {0, 1, 0}, 1, 3, 0, 1);
            isBest(new int[12], 0, 1, 0, 1);
        });
        Sentences.test("Returns that part.", () -> {
            for (int p = 0; p < 2; p++) {
                int parts = p;
                long[] due = {-25000, 39, 2500, 13};
                Bounds.Make twelve = () -> of(0, 0, 0, 0, 0, 0, 0, 0, 0, 0, 0, 5000);
                Bounds.answers("a of twelve, " + p, twelve, x -> x.best(0, false, parts), due[p]);
                Bounds.answers("b of twelve, " + p, twelve, x -> x.best(0, true, parts), due[2 + p]);
            }
        });
        Sentences.test("Throws `IndexOutOfBoundsException` if there is no such line", () -> {
            int[][] wrong = {{-1, 0}, {4, 0}, {4, 2}, {-1, -1}, {Bounds.LEAST, Bounds.LEAST}, {Bounds.MOST, 1}};
            for (int[] w : wrong) {
                for (boolean slope : new boolean[] {false, true}) {
                    Bounds.refused(w[0] + ", " + w[1], Due.BOUNDS, Bounds::rich, x -> x.best(w[0], slope, w[1]));
                    Bounds.refused(w[0] + ", " + w[1], Due.BOUNDS, () -> Bounds.gears(5),
                            x -> x.best(w[0], slope, w[1]));
                }
            }
        });
        Sentences.test("Throws `IllegalArgumentException` if part is neither 0 nor 1", () -> {
            int[] wrong = {-1, 2, Bounds.LEAST, Bounds.MOST};
            // The lines have 3, 0, 2 and 12 points.
            for (int line = 0; line < 4; line++) {
                int l = line;
                Bounds.refused(Due.ARGUMENT, Bounds::rich, (x, v) -> x.best(l, false, v), wrong);
                Bounds.refused(Due.ARGUMENT, Bounds::rich, (x, v) -> x.best(l, true, v), wrong);
            }
        });
        Sentences.test("Throws `IllegalStateException` if it has fewer than 3 points", () -> {
            int[][] few = {{}, {5}, {5, 6}};
            for (int[] points : few) {
                Bounds.refused(Due.STATE, () -> of(points), (x, v) -> x.best(0, true, v), 0, 1);
                Bounds.refused(Due.STATE, () -> of(points), (x, v) -> x.best(0, false, v), 0, 1);
            }
            GearGauge x = of(5, 6);
            Due.is("with 2 points", Due.outcome(() -> x.best(0, true, 0)), Due.STATE.getName());
            x.addPoint(0, 7);
            Due.is("with 3 points", x.best(0, true, 0), 1);
        });
    }
}
