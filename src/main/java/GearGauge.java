public final class GearGauge {

    public static final int NONE = -1;

    private static final int GEARS_AT_MOST = 6;
    private static final int LINES_AT_MOST = 10;
    private static final int POINTS_AT_LEAST = 3;
    private static final int POINTS_AT_MOST = 12;
    private static final int TEETH_AT_LEAST = 5;
    private static final int TEETH_AT_MOST = 30;
    private static final int MODULE_AT_MOST = 20;
    private static final int READING_AT_MOST = 5000;
    private static final int SEED_AT_MOST = 999999;
    private static final int GUARD_AT_MOST = 1000;
    private static final int TEXT_AT_MOST = 160;
    private static final int SAVED_AT_MOST = 4;

    private static final int SERIES = 3;
    private static final int RADIAL = 2;
    private static final int FLANKS = 2;
    private static final int DEVIATIONS = 9;
    private static final int LINE_DEVIATIONS = 3;
    private static final int KINDS = 2;
    private static final int CLASSES = 12;
    private static final int BASE_CLASS = 5;

    private final State now;
    private final State trial;
    private final State[] saved;
    private int savedCount;
    private final Text text;
    private final Mesh pair;
    private final Gear turned;
    private final int[] rankClass;
    private final int[] rankRange;

    public GearGauge() {
        now = new State();
        trial = new State();
        saved = new State[SAVED_AT_MOST];
        for (int i = 0; i < SAVED_AT_MOST; i++) {
            saved[i] = new State();
        }
        text = new Text();
        pair = new Mesh();
        turned = new Gear();
        rankClass = new int[GEARS_AT_MOST];
        rankRange = new int[GEARS_AT_MOST];
    }

    // ---- gears and readings

    public int addGear(int teeth, int module) throws IllegalArgumentException, IllegalStateException {
        if (!isGear(teeth, module)) {
            throw new IllegalArgumentException("teeth or module out of range");
        }
        if (now.gearCount >= GEARS_AT_MOST) {
            throw new IllegalStateException("no room for a gear");
        }
        save();
        return now.newGear(teeth, module);
    }

    public int removeGear(int gear) throws IndexOutOfBoundsException {
        requireGear(gear);
        save();
        return now.dropGear(gear);
    }

    public int setReading(int gear, int series, int index, int value)
            throws IndexOutOfBoundsException, IllegalArgumentException {
        Gear wheel = requireGear(gear);
        requireReading(wheel, series, index);
        if (!isDeviation(value)) {
            throw new IllegalArgumentException("value out of range");
        }
        save();
        int previous = wheel.readings[series][index];
        wheel.readings[series][index] = value;
        return previous;
    }

    public int fill(int gear, int seed, int spread) throws IndexOutOfBoundsException, IllegalArgumentException {
        Gear wheel = requireGear(gear);
        if (seed < 0 || seed > SEED_AT_MOST || spread < 0 || spread > READING_AT_MOST) {
            throw new IllegalArgumentException("seed or spread out of range");
        }
        save();
        wheel.scatter(seed, spread);
        return wheel.closingError(0);
    }

    public int turn(int gear, int k) throws IndexOutOfBoundsException, IllegalStateException {
        Gear wheel = requireGear(gear);
        if (k < 0 || k >= wheel.teeth) {
            throw new IndexOutOfBoundsException("no such tooth");
        }
        turned.becomeTurned(wheel, k);
        if (!turned.isInRange()) {
            throw new IllegalStateException("a reading would be out of range");
        }
        save();
        wheel.copyFrom(turned);
        return wheel.readings[0][0];
    }

    public int gears() {
        return now.gearCount;
    }

    public int gear(int gear, int what) throws IndexOutOfBoundsException, IllegalArgumentException {
        Gear wheel = requireGear(gear);
        switch (what) {
            case 0:
                return wheel.teeth;
            case 1:
                return wheel.module;
            case 2:
                return now.linesOf(gear);
            case 3:
                return classOfGear(gear);
            case 4:
                return wheel.closingError(0);
            case 5:
                return wheel.closingError(1);
            default:
                throw new IllegalArgumentException("what out of range");
        }
    }

    public int reading(int gear, int series, int index) throws IndexOutOfBoundsException {
        Gear wheel = requireGear(gear);
        requireReading(wheel, series, index);
        return wheel.readings[series][index];
    }

    // ---- deviations

    public int index(int gear, int flank, int tooth) throws IndexOutOfBoundsException {
        Gear wheel = requireGear(gear);
        requireFlank(flank);
        if (tooth < 0 || tooth > wheel.teeth) {
            throw new IndexOutOfBoundsException("no such tooth");
        }
        return wheel.indexAt(flank, tooth);
    }

    public int pitch(int gear, int flank, int tooth) throws IndexOutOfBoundsException {
        Gear wheel = requireGear(gear);
        requireFlank(flank);
        if (tooth < 1 || tooth > wheel.teeth) {
            throw new IndexOutOfBoundsException("no such tooth");
        }
        return wheel.indexAt(flank, tooth) - wheel.indexAt(flank, tooth - 1);
    }

    public int span(int gear, int flank, int k) throws IndexOutOfBoundsException, IllegalArgumentException {
        Gear wheel = requireGear(gear);
        requireFlank(flank);
        if (k < 1 || k > wheel.teeth) {
            throw new IllegalArgumentException("k out of range");
        }
        return wheel.greatestSpan(flank, k);
    }

    public int thickness(int gear, int tooth) throws IndexOutOfBoundsException {
        Gear wheel = requireGear(gear);
        if (tooth == NONE) {
            return wheel.thicknessRange();
        }
        if (tooth < 0 || tooth >= wheel.teeth) {
            throw new IndexOutOfBoundsException("no such tooth");
        }
        return wheel.thicknessAt(tooth);
    }

    public double eccentricity(int gear) throws IndexOutOfBoundsException {
        Gear wheel = requireGear(gear);
        return (double) wheel.greatestOpposite() / 2.0;
    }

    public int deviation(int gear, int what) throws IndexOutOfBoundsException, IllegalArgumentException {
        requireGear(gear);
        requireWhat(what);
        return now.deviationOf(gear, what);
    }

    // ---- lines

    public int addLine(int gear, int kind)
            throws IndexOutOfBoundsException, IllegalArgumentException, IllegalStateException {
        requireGear(gear);
        if (kind < 0 || kind >= KINDS) {
            throw new IllegalArgumentException("kind out of range");
        }
        if (now.lineCount >= LINES_AT_MOST) {
            throw new IllegalStateException("no room for a line");
        }
        save();
        return now.newLine(gear, kind);
    }

    public int addPoint(int line, int value)
            throws IndexOutOfBoundsException, IllegalArgumentException, IllegalStateException {
        Line trace = requireLine(line);
        if (!isDeviation(value)) {
            throw new IllegalArgumentException("value out of range");
        }
        if (trace.count >= POINTS_AT_MOST) {
            throw new IllegalStateException("no room for a point");
        }
        save();
        trace.push(value);
        return trace.count;
    }

    public int removeLine(int line) throws IndexOutOfBoundsException {
        requireLine(line);
        save();
        now.dropLine(line);
        return now.lineCount;
    }

    public int lines() {
        return now.lineCount;
    }

    public int line(int line, int what) throws IndexOutOfBoundsException, IllegalArgumentException {
        Line trace = requireLine(line);
        switch (what) {
            case 0:
                return trace.gear;
            case 1:
                return trace.kind;
            case 2:
                return trace.count;
            default:
                throw new IllegalArgumentException("what out of range");
        }
    }

    public int point(int line, int point) throws IndexOutOfBoundsException {
        Line trace = requireLine(line);
        if (point < 0 || point >= trace.count) {
            throw new IndexOutOfBoundsException("no such point");
        }
        return trace.points[point];
    }

    public int lineDeviation(int line, int what)
            throws IndexOutOfBoundsException, IllegalArgumentException, IllegalStateException {
        Line trace = requireLine(line);
        if (what < 0 || what >= LINE_DEVIATIONS) {
            throw new IllegalArgumentException("what out of range");
        }
        requirePoints(trace);
        return trace.deviationOf(what);
    }

    public long best(int line, boolean slope, int part)
            throws IndexOutOfBoundsException, IllegalArgumentException, IllegalStateException {
        Line trace = requireLine(line);
        if (part != 0 && part != 1) {
            throw new IllegalArgumentException("part out of range");
        }
        requirePoints(trace);
        long numerator = slope ? trace.slopeNumerator() : trace.interceptNumerator();
        long denominator = trace.denominator();
        long common = Math.max(1L, commonDivisor(numerator, denominator));
        return (part == 0 ? numerator : denominator) / common;
    }

    // ---- classes

    public int tolerance(int gear, int what, int quality)
            throws IndexOutOfBoundsException, IllegalArgumentException {
        Gear wheel = requireGear(gear);
        requireWhat(what);
        requireClass(quality);
        return ofClass(baseTolerance(wheel, what), quality);
    }

    public int quality(int gear, int what) throws IndexOutOfBoundsException, IllegalArgumentException {
        Gear wheel = requireGear(gear);
        if (what == NONE) {
            return classOfGear(gear);
        }
        requireWhat(what);
        return classOf(baseTolerance(wheel, what), now.deviationOf(gear, what));
    }

    public int decide(int gear, int quality, int u) throws IndexOutOfBoundsException, IllegalArgumentException {
        Gear wheel = requireGear(gear);
        requireClass(quality);
        if (u < 0 || u > GUARD_AT_MOST) {
            throw new IllegalArgumentException("u out of range");
        }
        int decision = 0;
        for (int what = 0; what < DEVIATIONS; what++) {
            int excess = now.deviationOf(gear, what) - ofClass(baseTolerance(wheel, what), quality);
            if (excess > u) {
                return 2;
            }
            if (excess > -u) {
                decision = 1;
            }
        }
        return decision;
    }

    // ---- mesh

    public int mesh(int g, int h, int flank, int phase) throws IndexOutOfBoundsException, IllegalArgumentException {
        Gear first = requireGear(g);
        Gear second = requireGear(h);
        requireFlank(flank);
        if (phase < 0 || phase >= second.teeth) {
            throw new IllegalArgumentException("phase out of range");
        }
        pair.engage(first, second, flank);
        return pair.errorAt(phase);
    }

    public int bestPhase(int g, int h, int flank) throws IndexOutOfBoundsException {
        Gear first = requireGear(g);
        Gear second = requireGear(h);
        requireFlank(flank);
        pair.engage(first, second, flank);
        return pair.phaseOfSmallest();
    }

    public int partner(int gear, int flank) throws IndexOutOfBoundsException {
        Gear wheel = requireGear(gear);
        requireFlank(flank);
        int found = NONE;
        int smallest = 0;
        for (int other = 0; other < now.gearCount; other++) {
            if (other != gear) {
                pair.engage(wheel, now.gearRow[other], flank);
                int error = pair.errorAt(pair.phaseOfSmallest());
                if (found == NONE || error < smallest) {
                    found = other;
                    smallest = error;
                }
            }
        }
        return found;
    }

    public double mean(int what) throws IllegalArgumentException {
        requireWhat(what);
        if (now.gearCount < 1) {
            return 0.0;
        }
        int sum = 0;
        for (int i = 0; i < now.gearCount; i++) {
            sum += now.deviationOf(i, what);
        }
        return (double) sum / (double) now.gearCount;
    }

    public int ranked(int place) throws IndexOutOfBoundsException {
        if (place < 0 || place >= now.gearCount) {
            throw new IndexOutOfBoundsException("no such place");
        }
        for (int i = 0; i < now.gearCount; i++) {
            rankClass[i] = classOfGear(i);
            rankRange[i] = now.deviationOf(i, 1);
        }
        int found = 0;
        for (int i = 0; i < now.gearCount; i++) {
            if (placeOf(i) == place) {
                found = i;
            }
        }
        return found;
    }

    // ---- text

    public int append(int value) throws IllegalArgumentException, IllegalStateException {
        if (value < 0 || value > 127) {
            throw new IllegalArgumentException("value out of range");
        }
        if (text.length >= TEXT_AT_MOST) {
            throw new IllegalStateException("no room for a byte");
        }
        text.bytes[text.length] = value;
        text.length++;
        return text.length;
    }

    public int clearText() {
        int length = text.length;
        text.length = 0;
        return length;
    }

    public int parse() {
        int error = text.syntaxError();
        if (error != NONE) {
            return -10 - error;
        }
        trial.copyFrom(now);
        int commands = 0;
        text.rewind();
        for (int i = 0; i < TEXT_AT_MOST && text.readCommand(); i++) {
            if (!trial.carryOut(text)) {
                return -1000 - commands;
            }
            commands++;
        }
        save();
        now.copyFrom(trial);
        return commands;
    }

    // ---- state

    public int undo() throws IllegalStateException {
        if (savedCount < 1) {
            throw new IllegalStateException("no saved state");
        }
        savedCount--;
        now.copyFrom(saved[savedCount]);
        return savedCount;
    }

    public long digest() {
        long h = mixed(2963L, text.length);
        h = mixed(h, now.gearCount);
        for (int i = 0; i < now.gearCount; i++) {
            Gear wheel = now.gearRow[i];
            h = mixed(mixed(h, wheel.teeth), wheel.module);
            h = mixed(mixed(h, now.linesOf(i)), classOfGear(i));
            h = mixed(mixed(h, wheel.closingError(0)), wheel.closingError(1));
            for (int series = 0; series < SERIES; series++) {
                for (int k = 0; k < wheel.sizeOf(series); k++) {
                    h = mixed(h, wheel.readings[series][k]);
                }
            }
            for (int what = 0; what < DEVIATIONS; what++) {
                h = mixed(h, now.deviationOf(i, what));
            }
        }
        h = mixed(h, now.lineCount);
        for (int i = 0; i < now.lineCount; i++) {
            Line trace = now.lineRow[i];
            h = mixed(mixed(mixed(h, trace.gear), trace.kind), trace.count);
            for (int k = 0; k < trace.count; k++) {
                h = mixed(h, trace.points[k]);
            }
            for (int what = 0; trace.isMeasured() && what < LINE_DEVIATIONS; what++) {
                h = mixed(h, trace.deviationOf(what));
            }
        }
        return mixed(h, savedCount);
    }

    // ---- what the calls above share

    /** Called when nothing can fail any more, because a call that throws must not save. */
    private void save() {
        if (savedCount >= SAVED_AT_MOST) {
            State oldest = saved[0];
            for (int i = 1; i < SAVED_AT_MOST; i++) {
                saved[i - 1] = saved[i];
            }
            saved[SAVED_AT_MOST - 1] = oldest;
            savedCount = SAVED_AT_MOST - 1;
        }
        saved[savedCount].copyFrom(now);
        savedCount++;
    }

    private Gear requireGear(int gear) {
        if (gear < 0 || gear >= now.gearCount) {
            throw new IndexOutOfBoundsException("no such gear");
        }
        return now.gearRow[gear];
    }

    private Line requireLine(int line) {
        if (line < 0 || line >= now.lineCount) {
            throw new IndexOutOfBoundsException("no such line");
        }
        return now.lineRow[line];
    }

    private static void requireReading(Gear wheel, int series, int index) {
        if (series < 0 || series >= SERIES) {
            throw new IndexOutOfBoundsException("no such series");
        }
        if (index < 0 || index >= wheel.sizeOf(series)) {
            throw new IndexOutOfBoundsException("no such reading");
        }
    }

    private static void requireFlank(int flank) {
        if (flank < 0 || flank >= FLANKS) {
            throw new IndexOutOfBoundsException("no such flank");
        }
    }

    private static void requireWhat(int what) {
        if (what < 0 || what >= DEVIATIONS) {
            throw new IllegalArgumentException("what out of range");
        }
    }

    private static void requireClass(int quality) {
        if (quality < 1 || quality > CLASSES) {
            throw new IllegalArgumentException("quality out of range");
        }
    }

    private static void requirePoints(Line trace) {
        if (!trace.isMeasured()) {
            throw new IllegalStateException("too few points");
        }
    }

    private static boolean isGear(int teeth, int module) {
        return teeth >= TEETH_AT_LEAST && teeth <= TEETH_AT_MOST && module >= 1 && module <= MODULE_AT_MOST;
    }

    private static boolean isDeviation(int value) {
        return value >= -READING_AT_MOST && value <= READING_AT_MOST;
    }

    private int classOfGear(int gear) {
        int greatest = 1;
        for (int what = 0; what < DEVIATIONS; what++) {
            int base = baseTolerance(now.gearRow[gear], what);
            greatest = Math.max(greatest, classOf(base, now.deviationOf(gear, what)));
        }
        return greatest;
    }

    /** How many gears rank before this one; ranked() fills the rows. */
    private int placeOf(int gear) {
        int before = 0;
        for (int i = 0; i < now.gearCount; i++) {
            if (ranksBefore(i, gear)) {
                before++;
            }
        }
        return before;
    }

    private boolean ranksBefore(int one, int other) {
        if (rankClass[one] != rankClass[other]) {
            return rankClass[one] < rankClass[other];
        }
        if (rankRange[one] != rankRange[other]) {
            return rankRange[one] < rankRange[other];
        }
        return one < other;
    }

    /** The tolerance of class 5, from which those of the other classes are made. */
    private static int baseTolerance(Gear wheel, int what) {
        int m = wheel.module;
        int r = root(m * wheel.teeth);
        int indexTolerance = 70 + 3 * m + 11 * r;
        int profileTolerance = 40 + 10 * m + r;
        int helixTolerance = 60 + 2 * r;
        switch (what) {
            case 0:
                return 30 + 3 * m + r;
            case 1:
                return indexTolerance;
            case 2:
                return indexTolerance * 8 / 10;
            case 3:
                return profileTolerance;
            case 4:
                return profileTolerance * 7 / 10;
            case 5:
                return profileTolerance * 8 / 10;
            case 6:
                return helixTolerance;
            default:
                return helixTolerance * 6 / 10;
        }
    }

    private static int ofClass(int base, int quality) {
        int value = base;
        for (int q = BASE_CLASS; q < quality; q++) {
            value = value * 1414 / 1000;
        }
        for (int q = BASE_CLASS; q > quality; q--) {
            value = value * 1000 / 1414;
        }
        return value;
    }

    private static int classOf(int base, int deviation) {
        for (int q = 1; q <= CLASSES; q++) {
            if (ofClass(base, q) >= deviation) {
                return q;
            }
        }
        return CLASSES + 1;
    }

    private static int root(int p) {
        int root = 0;
        for (int r = 1; r <= p && r * r <= p; r++) {
            root = r;
        }
        return root;
    }

    /** floor(p / q + 1 / 2), so that of two equally near numbers the greater one comes out. */
    private static int rounded(long p, long q) {
        if (q < 1) {
            return 0;
        }
        return (int) Math.floorDiv(2 * p + q, 2 * q);
    }

    private static long commonDivisor(long a, long b) {
        long big = Math.abs(a);
        long small = Math.abs(b);
        // Euclid needs at most some 90 rounds for any two longs.
        for (int i = 0; i < 100 && small != 0; i++) {
            long rest = big % small;
            big = small;
            small = rest;
        }
        return big;
    }

    private static long mixed(long h, int value) {
        return 31 * h + value;
    }

    /** A gear with its three series of readings. */
    private static final class Gear {
        int teeth;
        int module;
        final int[][] readings = new int[SERIES][TEETH_AT_MOST + 1];

        void copyFrom(Gear other) {
            teeth = other.teeth;
            module = other.module;
            for (int series = 0; series < SERIES; series++) {
                System.arraycopy(other.readings[series], 0, readings[series], 0, sizeOf(series));
            }
        }

        void reset(int newTeeth, int newModule) {
            teeth = newTeeth;
            module = newModule;
            for (int series = 0; series < SERIES; series++) {
                for (int i = 0; i <= TEETH_AT_MOST; i++) {
                    readings[series][i] = 0;
                }
            }
        }

        int sizeOf(int series) {
            return series == RADIAL ? teeth : teeth + 1;
        }

        int closingError(int flank) {
            return readings[flank][teeth] - readings[flank][0];
        }

        void scatter(int seed, int spread) {
            long s = seed;
            for (int series = 0; series < SERIES; series++) {
                for (int i = 0; i < sizeOf(series); i++) {
                    s = (1103515245L * s + 12345L) % 2147483648L;
                    readings[series][i] = (int) (s / 65536L % (2L * spread + 1L)) - spread;
                }
            }
        }

        void becomeTurned(Gear other, int k) {
            teeth = other.teeth;
            module = other.module;
            for (int series = 0; series < SERIES; series++) {
                int closing = series == RADIAL ? 0 : other.closingError(series);
                // From reading z on, the flanks are in their second turn.
                for (int i = 0; i < sizeOf(series); i++) {
                    boolean second = k + i >= teeth;
                    int from = second ? k + i - teeth : k + i;
                    readings[series][i] = other.readings[series][from] + (second ? closing : 0);
                }
            }
        }

        boolean isInRange() {
            for (int series = 0; series < SERIES; series++) {
                for (int i = 0; i < sizeOf(series); i++) {
                    if (!isDeviation(readings[series][i])) {
                        return false;
                    }
                }
            }
            return true;
        }

        int indexAt(int flank, int tooth) {
            int[] row = readings[flank];
            return row[tooth] - row[0] - rounded((long) closingError(flank) * tooth, teeth);
        }

        int greatestPitch(int flank) {
            int greatest = 0;
            int before = 0;
            for (int i = 1; i <= teeth; i++) {
                int here = indexAt(flank, i);
                greatest = Math.max(greatest, Math.abs(here - before));
                before = here;
            }
            return greatest;
        }

        int indexRange(int flank) {
            int most = 0;
            int least = 0;
            for (int i = 1; i <= teeth; i++) {
                int here = indexAt(flank, i);
                most = Math.max(most, here);
                least = Math.min(least, here);
            }
            return most - least;
        }

        /** The pitch deviations of a turn add up to 0, so a sum of some is a difference of two index deviations. */
        int greatestSpan(int flank, int k) {
            int greatest = 0;
            for (int i = 0; i < teeth; i++) {
                int sum = indexAt(flank, around(i + k)) - indexAt(flank, i);
                greatest = Math.max(greatest, Math.abs(sum));
            }
            return greatest;
        }

        int thicknessAt(int tooth) {
            return indexAt(0, tooth) - indexAt(1, tooth);
        }

        int thicknessRange() {
            int most = thicknessAt(0);
            int least = most;
            for (int i = 1; i < teeth; i++) {
                int here = thicknessAt(i);
                most = Math.max(most, here);
                least = Math.min(least, here);
            }
            return most - least;
        }

        int runout() {
            int most = readings[RADIAL][0];
            int least = most;
            for (int i = 1; i < teeth; i++) {
                most = Math.max(most, readings[RADIAL][i]);
                least = Math.min(least, readings[RADIAL][i]);
            }
            return most - least;
        }

        int greatestOpposite() {
            int greatest = 0;
            for (int i = 0; i < teeth; i++) {
                int difference = readings[RADIAL][around(i + teeth / 2)] - readings[RADIAL][i];
                greatest = Math.max(greatest, Math.abs(difference));
            }
            return greatest;
        }

        private int around(int tooth) {
            return tooth < teeth ? tooth : tooth - teeth;
        }
    }

    /** A profile or helix line; the sums that least squares need grow with its points. */
    private static final class Line {
        int gear;
        int kind;
        int count;
        private long sumX;
        private long sumXX;
        private long sumY;
        private long sumXY;
        final int[] points = new int[POINTS_AT_MOST];

        void copyFrom(Line other) {
            gear = other.gear;
            kind = other.kind;
            count = other.count;
            sumX = other.sumX;
            sumXX = other.sumXX;
            sumY = other.sumY;
            sumXY = other.sumXY;
            System.arraycopy(other.points, 0, points, 0, POINTS_AT_MOST);
        }

        void reset(int newGear, int newKind) {
            gear = newGear;
            kind = newKind;
            count = 0;
            sumX = 0;
            sumXX = 0;
            sumY = 0;
            sumXY = 0;
        }

        void push(int value) {
            if (count < POINTS_AT_MOST) {
                points[count] = value;
                sumX += count;
                sumXX += (long) count * count;
                sumY += value;
                sumXY += (long) count * value;
                count++;
            }
        }

        boolean isMeasured() {
            return count >= POINTS_AT_LEAST;
        }

        int deviationOf(int what) {
            switch (what) {
                case 0:
                    return totalDeviation();
                case 1:
                    return rounded(slopeNumerator() * (count - 1), denominator());
                default:
                    return rounded(formNumerator(), denominator());
            }
        }

        private int totalDeviation() {
            int most = points[0];
            int least = points[0];
            for (int i = 1; i < count; i++) {
                most = Math.max(most, points[i]);
                least = Math.min(least, points[i]);
            }
            return most - least;
        }

        private long formNumerator() {
            long a = interceptNumerator();
            long b = slopeNumerator();
            long d = denominator();
            long most = points[0] * d - a;
            long least = most;
            for (int i = 1; i < count; i++) {
                long rest = points[i] * d - (a + b * i);
                most = Math.max(most, rest);
                least = Math.min(least, rest);
            }
            return most - least;
        }

        /** Above 0 from 2 points on; a and b of the best line are their numerators over this. */
        long denominator() {
            return count * sumXX - sumX * sumX;
        }

        long slopeNumerator() {
            return count * sumXY - sumX * sumY;
        }

        long interceptNumerator() {
            return sumXX * sumY - sumX * sumXY;
        }
    }

    /** All that undo brings back. */
    private static final class State {
        int gearCount;
        int lineCount;
        final Gear[] gearRow = new Gear[GEARS_AT_MOST];
        final Line[] lineRow = new Line[LINES_AT_MOST];

        State() {
            for (int i = 0; i < GEARS_AT_MOST; i++) {
                gearRow[i] = new Gear();
            }
            for (int i = 0; i < LINES_AT_MOST; i++) {
                lineRow[i] = new Line();
            }
        }

        void copyFrom(State other) {
            gearCount = other.gearCount;
            for (int i = 0; i < gearCount; i++) {
                gearRow[i].copyFrom(other.gearRow[i]);
            }
            lineCount = other.lineCount;
            for (int i = 0; i < lineCount; i++) {
                lineRow[i].copyFrom(other.lineRow[i]);
            }
        }

        int newGear(int teeth, int module) {
            if (gearCount >= GEARS_AT_MOST) {
                return NONE;
            }
            gearRow[gearCount].reset(teeth, module);
            gearCount++;
            return gearCount - 1;
        }

        int newLine(int gear, int kind) {
            if (lineCount >= LINES_AT_MOST) {
                return NONE;
            }
            lineRow[lineCount].reset(gear, kind);
            lineCount++;
            return lineCount - 1;
        }

        /** What is dropped moves behind the others, to be used again. */
        int dropGear(int gear) {
            int linesBefore = lineCount;
            for (int i = lineCount - 1; i >= 0; i--) {
                if (lineRow[i].gear == gear) {
                    dropLine(i);
                }
            }
            for (int i = 0; i < lineCount; i++) {
                if (lineRow[i].gear > gear) {
                    lineRow[i].gear--;
                }
            }
            Gear dropped = gearRow[gear];
            gearCount--;
            for (int i = gear; i < gearCount; i++) {
                gearRow[i] = gearRow[i + 1];
            }
            gearRow[gearCount] = dropped;
            return linesBefore - lineCount;
        }

        void dropLine(int line) {
            Line dropped = lineRow[line];
            lineCount--;
            for (int i = line; i < lineCount; i++) {
                lineRow[i] = lineRow[i + 1];
            }
            lineRow[lineCount] = dropped;
        }

        int linesOf(int gear) {
            int found = 0;
            for (int i = 0; i < lineCount; i++) {
                if (lineRow[i].gear == gear) {
                    found++;
                }
            }
            return found;
        }

        int deviationOf(int gear, int what) {
            Gear wheel = gearRow[gear];
            switch (what) {
                case 0:
                    return Math.max(wheel.greatestPitch(0), wheel.greatestPitch(1));
                case 1:
                    return Math.max(wheel.indexRange(0), wheel.indexRange(1));
                case 2:
                    return wheel.runout();
                default:
                    return greatestOfLines(gear, (what - 3) / LINE_DEVIATIONS, (what - 3) % LINE_DEVIATIONS);
            }
        }

        private int greatestOfLines(int gear, int kind, int what) {
            int greatest = 0;
            for (int i = 0; i < lineCount; i++) {
                Line trace = lineRow[i];
                if (trace.gear == gear && trace.kind == kind && trace.isMeasured()) {
                    greatest = Math.max(greatest, Math.abs(trace.deviationOf(what)));
                }
            }
            return greatest;
        }

        /** Carries out the command that the text has just read; false if it is not possible. */
        boolean carryOut(Text command) {
            switch (command.letter) {
                case 'g':
                    return isGear(command.values[0], command.values[1])
                            && newGear(command.values[0], command.values[1]) != NONE;
                case 'l':
                    return takeSeries(0, command);
                case 'r':
                    return takeSeries(1, command);
                case 'f':
                    return takeSeries(RADIAL, command);
                case 'p':
                    return takeLine(0, command);
                default:
                    return takeLine(1, command);
            }
        }

        private boolean takeSeries(int series, Text command) {
            if (gearCount < 1 || !command.isInRange()) {
                return false;
            }
            Gear last = gearRow[gearCount - 1];
            if (command.numbers != last.sizeOf(series)) {
                return false;
            }
            System.arraycopy(command.values, 0, last.readings[series], 0, command.numbers);
            return true;
        }

        private boolean takeLine(int kind, Text command) {
            if (gearCount < 1 || !command.isInRange()) {
                return false;
            }
            int line = newLine(gearCount - 1, kind);
            if (line == NONE) {
                return false;
            }
            for (int i = 0; i < command.numbers; i++) {
                lineRow[line].push(command.values[i]);
            }
            return true;
        }
    }

    /** The reading text, with the command that was read last. */
    private static final class Text {
        private static final int BETWEEN_COMMANDS = 0;
        private static final int DIGITS_AT_MOST = 4;

        final int[] bytes = new int[TEXT_AT_MOST];
        int length;
        int letter;
        int numbers;
        final int[] values = new int[TEXT_AT_MOST];
        private int digits;
        private boolean negative;
        private int cursor;

        /** NONE if there is no syntax error. */
        int syntaxError() {
            letter = BETWEEN_COMMANDS;
            for (int i = 0; i < length; i++) {
                if (!isPossible(bytes[i])) {
                    return i;
                }
                if (bytes[i] == ';') {
                    letter = BETWEEN_COMMANDS;
                } else {
                    take(bytes[i]);
                }
            }
            return letter == BETWEEN_COMMANDS ? NONE : length;
        }

        void rewind() {
            cursor = 0;
        }

        /** Only for a text without a syntax error; false behind the last command. */
        boolean readCommand() {
            letter = BETWEEN_COMMANDS;
            while (cursor < length) {
                int c = bytes[cursor];
                cursor++;
                if (c == ';') {
                    return true;
                }
                take(c);
            }
            return false;
        }

        boolean isInRange() {
            for (int i = 0; i < numbers; i++) {
                if (!isDeviation(values[i])) {
                    return false;
                }
            }
            return true;
        }

        private boolean isPossible(int c) {
            if (letter == BETWEEN_COMMANDS) {
                return c == 'g' || c == 'l' || c == 'r' || c == 'f' || c == 'p' || c == 'h';
            }
            if (c >= '0' && c <= '9') {
                return digits < DIGITS_AT_MOST;
            }
            switch (c) {
                case '-':
                    return digits == 0 && !negative;
                case ',':
                    return digits > 0 && numbers < mostNumbers();
                case ';':
                    return digits > 0 && numbers >= leastNumbers();
                default:
                    return false;
            }
        }

        private int leastNumbers() {
            switch (letter) {
                case 'g':
                    return 2;
                case 'p':
                case 'h':
                    return POINTS_AT_LEAST;
                default:
                    return 1;
            }
        }

        private int mostNumbers() {
            switch (letter) {
                case 'g':
                    return 2;
                case 'p':
                case 'h':
                    return POINTS_AT_MOST;
                default:
                    return TEXT_AT_MOST;
            }
        }

        private void take(int c) {
            if (letter == BETWEEN_COMMANDS) {
                letter = c;
                numbers = 0;
                startNumber();
            } else if (c == ',') {
                startNumber();
            } else if (c == '-') {
                negative = true;
            } else if (numbers > 0) {
                int digit = c - '0';
                values[numbers - 1] = values[numbers - 1] * 10 + (negative ? -digit : digit);
                digits++;
            }
        }

        private void startNumber() {
            // Each number has a byte before it, so the row has a place for every number of a text.
            if (numbers < TEXT_AT_MOST) {
                values[numbers] = 0;
                numbers++;
            }
            digits = 0;
            negative = false;
        }
    }

    /**
     * Two gears on one flank. Tooth i of the first meets tooth j of the second when j - i - phase is a multiple
     * of the greatest common divisor of their numbers of teeth; so only the extremes of each class of teeth
     * modulo this period count, and the phases repeat with it.
     */
    private static final class Mesh {
        private int period = 1;
        private final int[] firstMost = new int[TEETH_AT_MOST];
        private final int[] firstLeast = new int[TEETH_AT_MOST];
        private final int[] secondMost = new int[TEETH_AT_MOST];
        private final int[] secondLeast = new int[TEETH_AT_MOST];

        void engage(Gear first, Gear second, int flank) {
            period = Math.max(1, (int) commonDivisor(first.teeth, second.teeth));
            sort(first, flank, firstMost, firstLeast);
            sort(second, flank, secondMost, secondLeast);
        }

        private void sort(Gear wheel, int flank, int[] most, int[] least) {
            for (int i = 0; i < wheel.teeth; i++) {
                int here = wheel.indexAt(flank, i);
                int r = i % period;
                most[r] = i < period ? here : Math.max(most[r], here);
                least[r] = i < period ? here : Math.min(least[r], here);
            }
        }

        int errorAt(int phase) {
            int most = firstMost[0] + secondMost[phase % period];
            int least = firstLeast[0] + secondLeast[phase % period];
            for (int r = 1; r < period; r++) {
                int s = (r + phase) % period;
                most = Math.max(most, firstMost[r] + secondMost[s]);
                least = Math.min(least, firstLeast[r] + secondLeast[s]);
            }
            return most - least;
        }

        int phaseOfSmallest() {
            int found = 0;
            int smallest = errorAt(0);
            for (int phase = 1; phase < period; phase++) {
                int error = errorAt(phase);
                if (error < smallest) {
                    found = phase;
                    smallest = error;
                }
            }
            return found;
        }
    }
}
