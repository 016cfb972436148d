import java.util.Random;

/** Random runs of calls, each call with the answer of Model, and the digest behind it. */
public final class ModelTest {
    /** An object has at most 512 calls; behind this one there can be a call, parse and two digests. */
    private static final int CALLS = 508;
    private static int calls = 0;

    private static Random random;
    private static GearGauge x;
    private static Model m;
    private static StringBuilder history;

    public static void main(String[] args) {
        int runs = args.length > 0 ? Integer.parseInt(args[0]) : 400;
        for (int run = 0; run < runs; run++) {
            random = new Random(run);
            x = new GearGauge();
            m = new Model();
            history = new StringBuilder("run " + run);
            int kind = run % 4;
            int until = calls + CALLS;
            while (calls < until) {
                if (kind == 3 && random.nextInt(4) == 0) {
                    text(until - 1);
                } else {
                    step(kind);
                }
            }
        }
        Due.verdict("ModelTest");
    }

    private static void check(String call, Due.Call got, Due.Call want) {
        calls++;
        history.append("; ").append(call);
        Object g = Due.outcome(got);
        Object w = Due.outcome(want);
        Due.is(call, g, w);
        // The digest of the model is dear.
        boolean same = true;
        if (random.nextInt(3) == 0) {
            calls++;
            same = x.digest() == m.digest();
        }
        Due.is(call + ": digest as due", same, true);
        if (!w.equals(g) || !same) {
            System.out.println(history);
            Due.verdict("ModelTest");
        }
    }

    /** Mostly from..to, now and then just beyond or far away. */
    private static int near(int from, int to) {
        int kind = random.nextInt(24);
        if (kind == 0) {
            return from - 1;
        }
        if (kind == 1) {
            return to + 1;
        }
        if (kind == 2) {
            return random.nextBoolean() ? Integer.MIN_VALUE : Integer.MAX_VALUE;
        }
        return within(from, to);
    }

    private static int within(int from, int to) {
        int kind = random.nextInt(8);
        if (kind == 0) {
            return from;
        }
        if (kind == 1) {
            return Math.max(from, to);
        }
        return from + random.nextInt(Math.max(1, to - from + 1));
    }

    private static int value() {
        return random.nextInt(3) == 0 ? near(-5000, 5000) : near(-60, 60);
    }

    private static int teeth(int gear) {
        return gear >= 0 && gear < m.gears() ? m.gear(gear, 0) : 5;
    }

    private static void step(int kind) {
        int choice = random.nextInt(kind == 1 ? 16 : 44);
        int g = near(0, m.gears() - 1);
        int h = near(0, m.gears() - 1);
        int l = near(0, m.lines() - 1);
        int z = teeth(g);
        switch (choice) {
            case 0: case 1: {
                int few = random.nextBoolean() ? 8 : 30;
                addGear(near(5, few), near(1, 20));
                break;
            }
            case 2: removeOne(g, l); break;
            case 3: case 4: case 5: setReading(g, near(0, 2), near(0, z), value()); break;
            case 6: case 7: fill(g, near(0, 999999), spread()); break;
            case 8: turn(g, near(0, z - 1)); break;
            case 9: addLine(g, near(0, 1)); break;
            case 10: case 11: case 12: case 13: addPoint(l, value()); break;
            case 14: addPoint(m.lines() - 1, value()); break;
            case 15: check("undo()", () -> x.undo(), () -> m.undo()); break;
            default: ask(choice - 16, g, h, l, z);
        }
    }

    private static int spread() {
        int[] spreads = {0, 1, 20, 50, 200, 1000, 5000};
        return random.nextInt(12) == 0 ? near(0, 5000) : spreads[random.nextInt(spreads.length)];
    }

    private static void addGear(int a, int b) {
        check("addGear(" + a + ", " + b + ")", () -> x.addGear(a, b), () -> m.addGear(a, b));
    }

    private static void removeOne(int g, int l) {
        if (random.nextInt(3) == 0) {
            check("removeGear(" + g + ")", () -> x.removeGear(g), () -> m.removeGear(g));
        } else {
            check("removeLine(" + l + ")", () -> x.removeLine(l), () -> m.removeLine(l));
        }
    }

    private static void setReading(int g, int s, int i, int v) {
        check("setReading(" + g + ", " + s + ", " + i + ", " + v + ")", () -> x.setReading(g, s, i, v),
                () -> m.setReading(g, s, i, v));
    }

    private static void fill(int g, int seed, int spread) {
        check("fill(" + g + ", " + seed + ", " + spread + ")", () -> x.fill(g, seed, spread),
                () -> m.fill(g, seed, spread));
    }

    private static void turn(int g, int k) {
        check("turn(" + g + ", " + k + ")", () -> x.turn(g, k), () -> m.turn(g, k));
    }

    private static void addLine(int g, int kind) {
        check("addLine(" + g + ", " + kind + ")", () -> x.addLine(g, kind), () -> m.addLine(g, kind));
    }

    private static void addPoint(int l, int v) {
        check("addPoint(" + l + ", " + v + ")", () -> x.addPoint(l, v), () -> m.addPoint(l, v));
    }

    private static void ask(int choice, int g, int h, int l, int z) {
        int a = near(0, z);
        int b = near(0, 8);
        int f = near(0, 1);
        int q = near(1, 12);
        int u = random.nextBoolean() ? near(0, 1000) : near(0, 60);
        boolean slope = random.nextBoolean();
        String with = "(" + g + ", " + h + ", " + l + " | " + a + ", " + b + ", " + f + ", " + q + ", " + u + ")";
        switch (choice) {
            case 0: check("gears" + with, () -> x.gears(), () -> m.gears()); break;
            case 1: check("gear" + with, () -> x.gear(g, near5(b)), () -> m.gear(g, near5(b))); break;
            case 2: check("reading" + with, () -> x.reading(g, f, a), () -> m.reading(g, f, a)); break;
            case 3: check("index" + with, () -> x.index(g, f, a), () -> m.index(g, f, a)); break;
            case 4: check("pitch" + with, () -> x.pitch(g, f, a), () -> m.pitch(g, f, a)); break;
            case 5: check("span" + with, () -> x.span(g, f, a), () -> m.span(g, f, a)); break;
            case 6: check("thickness" + with, () -> x.thickness(g, a), () -> m.thickness(g, a)); break;
            case 7: check("thickness" + with, () -> x.thickness(g, -1), () -> m.thickness(g, -1)); break;
            case 8: check("eccentricity" + with, () -> x.eccentricity(g), () -> m.eccentricity(g)); break;
            case 9: check("deviation" + with, () -> x.deviation(g, b), () -> m.deviation(g, b)); break;
            case 10: check("lines" + with, () -> x.lines(), () -> m.lines()); break;
            case 11: check("line" + with, () -> x.line(l, near2(b)), () -> m.line(l, near2(b))); break;
            case 12: check("point" + with, () -> x.point(l, a), () -> m.point(l, a)); break;
            case 13: check("lineDeviation" + with, () -> x.lineDeviation(l, near2(b)),
                    () -> m.lineDeviation(l, near2(b))); break;
            case 14: case 15: check("best" + with, () -> x.best(l, slope, f), () -> m.best(l, slope, f)); break;
            case 16: check("tolerance" + with, () -> x.tolerance(g, b, q), () -> m.tolerance(g, b, q)); break;
            case 17: check("quality" + with, () -> x.quality(g, b), () -> m.quality(g, b)); break;
            case 18: case 19: check("decide" + with, () -> x.decide(g, q, u), () -> m.decide(g, q, u)); break;
            case 20: case 21: {
                int phase = near(0, teeth(h) - 1);
                check("mesh" + with + phase, () -> x.mesh(g, h, f, phase), () -> m.mesh(g, h, f, phase));
                break;
            }
            case 22: check("bestPhase" + with, () -> x.bestPhase(g, h, f), () -> m.bestPhase(g, h, f)); break;
            case 23: check("partner" + with, () -> x.partner(g, f), () -> m.partner(g, f)); break;
            case 24: check("mean" + with, () -> x.mean(b), () -> m.mean(b)); break;
            case 25: check("ranked" + with, () -> x.ranked(g), () -> m.ranked(g)); break;
            case 26: {
                int v = near(0, 127);
                check("append(" + v + ")", () -> x.append(v), () -> m.append(v));
                break;
            }
            default: check("parse", () -> x.parse(), () -> m.parse()); break;
        }
    }

    private static int near5(int b) {
        return b > 6 ? b - 6 : b;
    }

    private static int near2(int b) {
        return b > 3 ? b % 4 : b;
    }

    /** A text that is nearly one of the grammar. */
    private static void text(int until) {
        check("clearText()", () -> x.clearText(), () -> m.clearText());
        StringBuilder t = new StringBuilder();
        int commands = random.nextInt(5);
        int z = teeth(m.gears() - 1);
        for (int i = 0; i < commands; i++) {
            char letter = "glrfphph".charAt(random.nextInt(8));
            int count;
            if (letter == 'g') {
                count = 2;
                z = 5 + random.nextInt(4);
                t.append('g').append(z).append(',').append(1 + random.nextInt(20)).append(';');
                continue;
            } else if (letter == 'p' || letter == 'h') {
                count = 3 + random.nextInt(3);
            } else {
                count = (letter == 'f' ? z : z + 1) + (random.nextInt(12) == 0 ? 1 : 0);
            }
            t.append(letter);
            for (int k = 0; k < count; k++) {
                t.append(k > 0 ? "," : "").append(random.nextInt(30) == 0 ? 5000 + random.nextInt(3)
                        : random.nextInt(199) - 99);
            }
            t.append(';');
        }
        if (random.nextInt(2) == 0 && t.length() > 0) {
            int at = random.nextInt(t.length());
            char put = "glrfph,;-0123456789 x".charAt(random.nextInt(21));
            switch (random.nextInt(4)) {
                case 0: t.insert(at, put); break;
                case 1: t.setCharAt(at, put); break;
                case 2: t.deleteCharAt(at); break;
                default: t.setLength(at); break;
            }
        }
        for (int i = 0; i < t.length() && calls < until; i++) {
            int v = t.charAt(i);
            check("append(" + v + ")", () -> x.append(v), () -> m.append(v));
        }
        check("parse()", () -> x.parse(), () -> m.parse());
    }
}
