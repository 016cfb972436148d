import java.math.BigInteger;
import java.util.ArrayList;
import java.util.Arrays;
import java.util.Comparator;
import java.util.List;
import java.util.regex.Matcher;
import java.util.regex.Pattern;

/**
 * The document once more, as slowly and directly as it reads, with the Java library and without a look at how
 * GearGauge does it: step by step around both wheels, fractions of BigIntegers, a regular expression for the text.
 */
final class Model {
    static final class Gear {
        int z;
        int m;
        int[][] series;

        Gear(int z, int m) {
            this.z = z;
            this.m = m;
            series = new int[][] {new int[z + 1], new int[z + 1], new int[z]};
        }

        Gear copy() {
            Gear c = new Gear(z, m);
            for (int s = 0; s < 3; s++) {
                c.series[s] = series[s].clone();
            }
            return c;
        }
    }

    static final class Line {
        int gear;
        int kind;
        List<Integer> ys = new ArrayList<>();

        Line(int gear, int kind) {
            this.gear = gear;
            this.kind = kind;
        }

        Line copy() {
            Line c = new Line(gear, kind);
            c.ys.addAll(ys);
            return c;
        }
    }

    static final class State {
        List<Gear> gears = new ArrayList<>();
        List<Line> lines = new ArrayList<>();

        State copy() {
            State c = new State();
            for (Gear g : gears) {
                c.gears.add(g.copy());
            }
            for (Line l : lines) {
                c.lines.add(l.copy());
            }
            return c;
        }
    }

    static final class Fraction {
        final BigInteger p;
        final BigInteger q;

        Fraction(BigInteger p, BigInteger q) {
            BigInteger common = p.gcd(q).multiply(BigInteger.valueOf(q.signum()));
            this.p = p.divide(common);
            this.q = q.divide(common);
        }

        static Fraction of(long n) {
            return new Fraction(BigInteger.valueOf(n), BigInteger.ONE);
        }

        Fraction plus(Fraction o) {
            return new Fraction(p.multiply(o.q).add(o.p.multiply(q)), q.multiply(o.q));
        }

        Fraction times(Fraction o) {
            return new Fraction(p.multiply(o.p), q.multiply(o.q));
        }

        Fraction minus(Fraction o) {
            return plus(o.times(of(-1)));
        }

        Fraction over(Fraction o) {
            return new Fraction(p.multiply(o.q), q.multiply(o.p));
        }

        int compare(Fraction o) {
            return p.multiply(o.q).compareTo(o.p.multiply(q));
        }

        /** Of the whole numbers around it the nearest one, the greater one of two. */
        int round() {
            int around = p.divide(q).intValueExact();
            int best = around - 2;
            for (int n = around - 1; n <= around + 2; n++) {
                if (distance(n).compare(distance(best)) <= 0) {
                    best = n;
                }
            }
            return best;
        }

        private Fraction distance(int n) {
            Fraction d = minus(of(n));
            return new Fraction(d.p.abs(), d.q);
        }
    }

    State state = new State();
    List<State> saved = new ArrayList<>();
    String text = "";

    private void save() {
        saved.add(state.copy());
        if (saved.size() > 4) {
            saved.remove(0);
        }
    }

    private static void bounds(boolean good) {
        if (!good) {
            throw new IndexOutOfBoundsException();
        }
    }

    private static void argument(boolean good) {
        if (!good) {
            throw new IllegalArgumentException();
        }
    }

    private static void state(boolean good) {
        if (!good) {
            throw new IllegalStateException();
        }
    }

    private static boolean in(int value, int from, int to) {
        return from <= value && value <= to;
    }

    private Gear g(int gear) {
        bounds(in(gear, 0, state.gears.size() - 1));
        return state.gears.get(gear);
    }

    private Line l(int line) {
        bounds(in(line, 0, state.lines.size() - 1));
        return state.lines.get(line);
    }

    int addGear(int teeth, int module) {
        argument(in(teeth, 5, 30) && in(module, 1, 20));
        state(state.gears.size() < 6);
        save();
        state.gears.add(new Gear(teeth, module));
        return state.gears.size() - 1;
    }

    int removeGear(int gear) {
        g(gear);
        save();
        int before = state.lines.size();
        state.lines.removeIf(l -> l.gear == gear);
        for (Line l : state.lines) {
            if (l.gear > gear) {
                l.gear--;
            }
        }
        state.gears.remove(gear);
        return before - state.lines.size();
    }

    int setReading(int gear, int series, int index, int value) {
        reading(gear, series, index);
        argument(in(value, -5000, 5000));
        save();
        int previous = g(gear).series[series][index];
        g(gear).series[series][index] = value;
        return previous;
    }

    int fill(int gear, int seed, int spread) {
        g(gear);
        argument(in(seed, 0, 999999) && in(spread, 0, 5000));
        save();
        BigInteger s = BigInteger.valueOf(seed);
        for (int[] row : g(gear).series) {
            for (int i = 0; i < row.length; i++) {
                s = s.multiply(BigInteger.valueOf(1103515245)).add(BigInteger.valueOf(12345))
                        .mod(BigInteger.valueOf(2147483648L));
                row[i] = s.divide(BigInteger.valueOf(65536)).mod(BigInteger.valueOf(2 * spread + 1)).intValue()
                        - spread;
            }
        }
        return closing(g(gear), 0);
    }

    int turn(int gear, int k) {
        Gear old = g(gear);
        bounds(in(k, 0, old.z - 1));
        Gear made = new Gear(old.z, old.m);
        for (int i = 0; i < old.z; i++) {
            int from = (i + k) % old.z;
            for (int s = 0; s < 3; s++) {
                made.series[s][i] = old.series[s][from];
                if (s < 2 && from < k) {
                    made.series[s][i] += closing(old, s);
                }
            }
        }
        for (int s = 0; s < 2; s++) {
            made.series[s][old.z] = old.series[s][k] + closing(old, s);
        }
        for (int[] row : made.series) {
            for (int v : row) {
                state(in(v, -5000, 5000));
            }
        }
        save();
        state.gears.set(gear, made);
        return made.series[0][0];
    }

    int gears() {
        return state.gears.size();
    }

    int gear(int gear, int what) {
        Gear g = g(gear);
        argument(in(what, 0, 5));
        int lines = 0;
        for (Line l : state.lines) {
            lines += l.gear == gear ? 1 : 0;
        }
        int[] values = {g.z, g.m, lines, quality(gear, -1), closing(g, 0), closing(g, 1)};
        return values[what];
    }

    int reading(int gear, int series, int index) {
        g(gear);
        bounds(in(series, 0, 2));
        bounds(in(index, 0, g(gear).series[series].length - 1));
        return g(gear).series[series][index];
    }

    private static int closing(Gear g, int flank) {
        return g.series[flank][g.z] - g.series[flank][0];
    }

    int index(int gear, int flank, int tooth) {
        Gear g = g(gear);
        bounds(in(flank, 0, 1));
        bounds(in(tooth, 0, g.z));
        return g.series[flank][tooth] - g.series[flank][0] - nearest(closing(g, flank) * tooth, g.z);
    }

    /** Of the whole numbers around p / q the nearest one, the greater one of two. */
    private static int nearest(int p, int q) {
        int best = p / q - 1;
        for (int n = p / q; n <= p / q + 1; n++) {
            if (Math.abs(p - n * q) <= Math.abs(p - best * q)) {
                best = n;
            }
        }
        return best;
    }

    int pitch(int gear, int flank, int tooth) {
        Gear g = g(gear);
        bounds(in(flank, 0, 1));
        bounds(in(tooth, 1, g.z));
        return index(gear, flank, tooth) - index(gear, flank, tooth - 1);
    }

    int span(int gear, int flank, int k) {
        Gear g = g(gear);
        bounds(in(flank, 0, 1));
        argument(in(k, 1, g.z));
        int greatest = 0;
        for (int from = 0; from < g.z; from++) {
            int sum = 0;
            for (int i = 0; i < k; i++) {
                sum += pitch(gear, flank, (from + i) % g.z + 1);
            }
            greatest = Math.max(greatest, Math.abs(sum));
        }
        return greatest;
    }

    int thickness(int gear, int tooth) {
        Gear g = g(gear);
        bounds(in(tooth, -1, g.z - 1));
        int[] all = new int[g.z];
        for (int i = 0; i < g.z; i++) {
            all[i] = index(gear, 0, i) - index(gear, 1, i);
        }
        return tooth == -1 ? range(all) : all[tooth];
    }

    private static int range(int[] all) {
        return Arrays.stream(all).max().getAsInt() - Arrays.stream(all).min().getAsInt();
    }

    double eccentricity(int gear) {
        Gear g = g(gear);
        double greatest = 0;
        for (int i = 0; i < g.z; i++) {
            greatest = Math.max(greatest, Math.abs(g.series[2][i] - g.series[2][(i + g.z / 2) % g.z]));
        }
        return greatest / 2;
    }

    int deviation(int gear, int what) {
        Gear g = g(gear);
        argument(in(what, 0, 8));
        int greatest = 0;
        if (what == 2) {
            return range(g.series[2]);
        }
        for (int flank = 0; flank < 2; flank++) {
            int[] all = new int[g.z + 1];
            for (int i = 0; i <= g.z; i++) {
                all[i] = index(gear, flank, i);
                if (what == 0 && i > 0) {
                    greatest = Math.max(greatest, Math.abs(pitch(gear, flank, i)));
                }
            }
            if (what == 1) {
                greatest = Math.max(greatest, range(all));
            }
        }
        for (int i = 0; what >= 3 && i < state.lines.size(); i++) {
            Line l = state.lines.get(i);
            if (l.gear == gear && l.ys.size() >= 3 && l.kind == (what < 6 ? 0 : 1)) {
                greatest = Math.max(greatest, Math.abs(lineDeviation(i, what < 6 ? what - 3 : what - 6)));
            }
        }
        return greatest;
    }

    int addLine(int gear, int kind) {
        g(gear);
        argument(in(kind, 0, 1));
        state(state.lines.size() < 10);
        save();
        state.lines.add(new Line(gear, kind));
        return state.lines.size() - 1;
    }

    int addPoint(int line, int value) {
        l(line);
        argument(in(value, -5000, 5000));
        state(l(line).ys.size() < 12);
        save();
        l(line).ys.add(value);
        return l(line).ys.size();
    }

    int removeLine(int line) {
        l(line);
        save();
        state.lines.remove(line);
        return state.lines.size();
    }

    int lines() {
        return state.lines.size();
    }

    int line(int line, int what) {
        Line l = l(line);
        argument(in(what, 0, 2));
        return new int[] {l.gear, l.kind, l.ys.size()}[what];
    }

    int point(int line, int point) {
        bounds(in(point, 0, l(line).ys.size() - 1));
        return l(line).ys.get(point);
    }

    /** a and b, from the means. */
    private static Fraction[] bestLine(Line l) {
        Fraction n = Fraction.of(l.ys.size());
        Fraction meanX = Fraction.of(0);
        Fraction meanY = Fraction.of(0);
        for (int x = 0; x < l.ys.size(); x++) {
            meanX = meanX.plus(Fraction.of(x).over(n));
            meanY = meanY.plus(Fraction.of(l.ys.get(x)).over(n));
        }
        Fraction up = Fraction.of(0);
        Fraction down = Fraction.of(0);
        for (int x = 0; x < l.ys.size(); x++) {
            Fraction dx = Fraction.of(x).minus(meanX);
            up = up.plus(dx.times(Fraction.of(l.ys.get(x)).minus(meanY)));
            down = down.plus(dx.times(dx));
        }
        Fraction b = up.over(down);
        return new Fraction[] {meanY.minus(b.times(meanX)), b};
    }

    int lineDeviation(int line, int what) {
        Line l = l(line);
        argument(in(what, 0, 2));
        state(l.ys.size() >= 3);
        if (what == 0) {
            return range(l.ys.stream().mapToInt(y -> y).toArray());
        }
        Fraction[] ab = bestLine(l);
        if (what == 1) {
            return ab[1].times(Fraction.of(l.ys.size() - 1)).round();
        }
        Fraction most = null;
        Fraction least = null;
        for (int x = 0; x < l.ys.size(); x++) {
            Fraction rest = Fraction.of(l.ys.get(x)).minus(ab[0].plus(ab[1].times(Fraction.of(x))));
            most = most == null || rest.compare(most) > 0 ? rest : most;
            least = least == null || rest.compare(least) < 0 ? rest : least;
        }
        return most.minus(least).round();
    }

    long best(int line, boolean slope, int part) {
        Line l = l(line);
        argument(in(part, 0, 1));
        state(l.ys.size() >= 3);
        Fraction f = bestLine(l)[slope ? 1 : 0];
        return (part == 0 ? f.p : f.q).longValueExact();
    }

    int tolerance(int gear, int what, int quality) {
        Gear g = g(gear);
        argument(in(what, 0, 8));
        argument(in(quality, 1, 12));
        if (quality > 5) {
            return tolerance(gear, what, quality - 1) * 1414 / 1000;
        }
        if (quality < 5) {
            return tolerance(gear, what, quality + 1) * 1000 / 1414;
        }
        int r = (int) Math.sqrt(g.m * g.z);
        switch (what) {
            case 0: return 30 + 3 * g.m + r;
            case 1: return 70 + 3 * g.m + 11 * r;
            case 2: return 8 * tolerance(gear, 1, 5) / 10;
            case 3: return 40 + 10 * g.m + r;
            case 4: return 7 * tolerance(gear, 3, 5) / 10;
            case 5: return 8 * tolerance(gear, 3, 5) / 10;
            case 6: return 60 + 2 * r;
            default: return 6 * tolerance(gear, 6, 5) / 10;
        }
    }

    int quality(int gear, int what) {
        g(gear);
        argument(in(what, -1, 8));
        if (what == -1) {
            int greatest = 0;
            for (int i = 0; i < 9; i++) {
                greatest = Math.max(greatest, quality(gear, i));
            }
            return greatest;
        }
        int q = 1;
        int deviation = deviation(gear, what);
        while (q <= 12 && tolerance(gear, what, q) < deviation) {
            q++;
        }
        return q;
    }

    int decide(int gear, int quality, int u) {
        g(gear);
        argument(in(quality, 1, 12));
        argument(in(u, 0, 1000));
        boolean accepted = true;
        boolean rejected = false;
        for (int what = 0; what < 9; what++) {
            accepted &= deviation(gear, what) + u <= tolerance(gear, what, quality);
            rejected |= deviation(gear, what) - u > tolerance(gear, what, quality);
        }
        return accepted ? 0 : rejected ? 2 : 1;
    }

    int mesh(int g, int h, int flank, int phase) {
        g(g);
        g(h);
        bounds(in(flank, 0, 1));
        argument(in(phase, 0, g(h).z - 1));
        int[] indexG = new int[g(g).z];
        int[] indexH = new int[g(h).z];
        Arrays.setAll(indexG, i -> index(g, flank, i));
        Arrays.setAll(indexH, i -> index(h, flank, i));
        int multiple = indexG.length;
        while (multiple % indexH.length != 0) {
            multiple += indexG.length;
        }
        int[] errors = new int[multiple];
        Arrays.setAll(errors, k -> indexG[k % indexG.length] + indexH[(k + phase) % indexH.length]);
        return range(errors);
    }

    int bestPhase(int g, int h, int flank) {
        g(g);
        g(h);
        bounds(in(flank, 0, 1));
        int best = 0;
        int smallest = Integer.MAX_VALUE;
        for (int phase = 0; phase < g(h).z; phase++) {
            int error = mesh(g, h, flank, phase);
            if (error < smallest) {
                best = phase;
                smallest = error;
            }
        }
        return best;
    }

    int partner(int gear, int flank) {
        g(gear);
        bounds(in(flank, 0, 1));
        int partner = -1;
        int smallest = Integer.MAX_VALUE;
        for (int h = 0; h < state.gears.size(); h++) {
            if (h != gear) {
                int error = mesh(gear, h, flank, bestPhase(gear, h, flank));
                if (error < smallest) {
                    partner = h;
                    smallest = error;
                }
            }
        }
        return partner;
    }

    double mean(int what) {
        argument(in(what, 0, 8));
        long sum = 0;
        for (int i = 0; i < state.gears.size(); i++) {
            sum += deviation(i, what);
        }
        return state.gears.isEmpty() ? 0.0 : (double) sum / (double) state.gears.size();
    }

    int ranked(int place) {
        bounds(in(place, 0, state.gears.size() - 1));
        List<Integer> order = new ArrayList<>();
        for (int i = 0; i < state.gears.size(); i++) {
            order.add(i);
        }
        order.sort(Comparator.<Integer>comparingInt(i -> quality(i, -1)).thenComparingInt(i -> deviation(i, 1))
                .thenComparingInt(i -> i));
        return order.get(place);
    }

    int append(int value) {
        argument(in(value, 0, 127));
        state(text.length() < 160);
        text += (char) value;
        return text.length();
    }

    int clearText() {
        int length = text.length();
        text = "";
        return length;
    }

    private static final String NUMBER = "-?[0-9]{1,4}";
    private static final Pattern TEXT = Pattern.compile("(?:g" + NUMBER + "," + NUMBER + ";|[lrf]" + NUMBER + "(?:,"
            + NUMBER + ")*;|[ph]" + NUMBER + "(?:," + NUMBER + "){2,11};)*", Pattern.DOTALL);

    /** A byte can stand where it stands if the text up to it is, or begins, a text of the grammar. */
    private int syntaxError() {
        for (int i = 1; i <= text.length(); i++) {
            Matcher m = TEXT.matcher(text.substring(0, i));
            if (!m.matches() && !m.hitEnd()) {
                return i - 1;
            }
        }
        return TEXT.matcher(text).matches() ? -1 : text.length();
    }

    int parse() {
        int error = syntaxError();
        if (error >= 0) {
            return -10 - error;
        }
        State before = state.copy();
        String[] commands = text.isEmpty() ? new String[0] : text.split(";");
        for (int i = 0; i < commands.length; i++) {
            String[] words = commands[i].substring(1).split(",");
            int[] numbers = Arrays.stream(words).mapToInt(Integer::parseInt).toArray();
            if (!carryOut(commands[i].charAt(0), numbers)) {
                state = before;
                return -1000 - i;
            }
        }
        State after = state;
        state = before;
        save();
        state = after;
        return commands.length;
    }

    private boolean carryOut(char letter, int[] numbers) {
        if (letter == 'g') {
            if (!in(numbers[0], 5, 30) || !in(numbers[1], 1, 20) || state.gears.size() == 6) {
                return false;
            }
            state.gears.add(new Gear(numbers[0], numbers[1]));
            return true;
        }
        if (state.gears.isEmpty() || Arrays.stream(numbers).anyMatch(v -> !in(v, -5000, 5000))) {
            return false;
        }
        Gear last = state.gears.get(state.gears.size() - 1);
        if (letter == 'p' || letter == 'h') {
            if (state.lines.size() == 10) {
                return false;
            }
            Line line = new Line(state.gears.size() - 1, letter == 'p' ? 0 : 1);
            Arrays.stream(numbers).forEach(line.ys::add);
            state.lines.add(line);
            return true;
        }
        int series = "lrf".indexOf(letter);
        if (numbers.length != last.series[series].length) {
            return false;
        }
        last.series[series] = numbers;
        return true;
    }

    int undo() {
        state(!saved.isEmpty());
        state = saved.remove(saved.size() - 1);
        return saved.size();
    }

    long digest() {
        List<Long> values = new ArrayList<>();
        values.add((long) text.length());
        values.add((long) gears());
        for (int i = 0; i < gears(); i++) {
            for (int what = 0; what <= 5; what++) {
                values.add((long) gear(i, what));
            }
            for (int[] row : g(i).series) {
                for (int v : row) {
                    values.add((long) v);
                }
            }
            for (int what = 0; what <= 8; what++) {
                values.add((long) deviation(i, what));
            }
        }
        values.add((long) lines());
        for (int i = 0; i < lines(); i++) {
            for (int what = 0; what <= 2; what++) {
                values.add((long) line(i, what));
            }
            for (int y : l(i).ys) {
                values.add((long) y);
            }
            for (int what = 0; l(i).ys.size() >= 3 && what <= 2; what++) {
                values.add((long) lineDeviation(i, what));
            }
        }
        values.add((long) saved.size());
        long h = 2963;
        for (long v : values) {
            h = 31 * h + v;
        }
        return h;
    }
}
