/**
 * A rope walk: meters, drums, logs, racks of spools, and brakes. The document's numbered promises say what each call
 * answers; this class makes all its rows in its constructor, and no call makes an object.
 */
public final class RopeDrums {
    public static final int NONE = -1, UNKNOWN = -1001, OUTSIDE = -1002, FULL = -1003;

    private static final int INTS = 0, LONGS = 1, FLOATS = 2, DOUBLES = 3;
    private static final int MISSING = 1, PLACE = 2, MISFIT = 3, ZERO = 4, VOID = 5;
    private static final int ADD = 0, SUBTRACT = 1, MULTIPLY = 2, DIVIDE = 3, LEFT = 4;
    private static final int AROUND = 0, AT = 1, ROPE = 2, TURNS = 3;
    private static final int PAD = 0, NO_BRAKE = 2;
    private static final int METERS = 10, DRUMS = 6, LOGS = 8, FLOAT_LOGS = 4, RACKS = 5, BRAKES = 4;
    private static final int LOG_PLACES = 16, RACK_PLACES = 12, MOST_SPOOLS = 30, MOST_WEIGHT = 100000;

    private final Meters meters;
    private final Drums drums;
    private final Logs logs;
    private final Spools spools;
    private final Racks racks;
    private final Brakes brakes;
    private final Tally tally;

    public RopeDrums() {
        meters = new Meters();
        drums = new Drums();
        logs = new Logs();
        spools = new Spools();
        racks = new Racks();
        brakes = new Brakes();
        tally = new Tally();
    }

    public int set(int meter, int lane, long bits) {
        if (!isMeter(meter)) return UNKNOWN;
        if (!isLane(lane)) return OUTSIDE;
        if (lane <= LONGS) {
            meters.holdWhole(meter, lane, bits);
            return 1;
        }
        long own = lane == FLOATS ? (int) bits : bits;
        if (!Reals.isNumber(own, lane)) return OUTSIDE;
        meters.holdReal(meter, lane, Reals.fromBits(own, lane));
        return 1;
    }

    public long bits(int meter) {
        if (!isMeter(meter)) return UNKNOWN;
        int lane = meters.lanes[meter];
        return lane <= LONGS ? meters.wholes[meter] : Reals.toBits(meters.reals[meter], lane);
    }

    public int lane(int meter) {
        if (!isMeter(meter)) return UNKNOWN;
        return meters.lanes[meter];
    }

    public int turn(int meter, int lane) {
        if (!isMeter(meter)) return UNKNOWN;
        if (!isLane(lane)) return OUTSIDE;
        if (lane <= LONGS) {
            meters.holdWhole(meter, lane, meters.wholeIn(meter, lane));
        } else {
            meters.holdReal(meter, lane, meters.realIn(meter, lane));
        }
        return 1;
    }

    public int reckon(int act, int x, int y, int into) {
        if (!isMeter(x) || !isMeter(y) || !isMeter(into)) return UNKNOWN;
        if (act < ADD || act > LEFT) return OUTSIDE;
        int lane = meters.widerLane(x, y);
        if (lane <= LONGS) {
            long a = meters.wholeIn(x, lane);
            long b = meters.wholeIn(y, lane);
            if (act >= DIVIDE && b == 0L) return tally.fail(ZERO);
            meters.holdWhole(into, lane, Wholes.outcome(act, a, b));
        } else {
            double a = meters.realIn(x, lane);
            double b = meters.realIn(y, lane);
            if (Reals.isVoid(act, a, b)) return tally.fail(VOID);
            meters.holdReal(into, lane, lane == FLOATS
                ? Reals.floatOutcome(act, (float) a, (float) b) : Reals.outcome(act, a, b));
        }
        return tally.pass(lane);
    }

    public int compare(int x, int y) {
        if (!isMeter(x) || !isMeter(y)) return UNKNOWN;
        int lane = meters.widerLane(x, y);
        if (lane <= LONGS) return Long.compare(meters.wholeIn(x, lane), meters.wholeIn(y, lane));
        double a = meters.realIn(x, lane);
        double b = meters.realIn(y, lane);
        return a < b ? -1 : a > b ? 1 : 0;
    }

    public int drum(int drum, long around) {
        if (!isDrum(drum)) return UNKNOWN;
        if (!Reals.isNumber(around, DOUBLES)) return OUTSIDE;
        double length = Reals.fromBits(around, DOUBLES);
        if (length < 0.125 || length > 1000000.0) return OUTSIDE;
        drums.renew(drum, length);
        return 1;
    }

    public int wind(int drum, int meter) {
        if (!isDrum(drum) || !isMeter(meter)) return UNKNOWN;
        double v = meters.realIn(meter, DOUBLES);
        if (Reals.isEndless(v)) return tally.fail(VOID);
        drums.takeUp(drum, v);
        return tally.pass(1);
    }

    public long told(int drum, int what) {
        if (!isDrum(drum)) return UNKNOWN;
        switch (what) {
            case AROUND: return Reals.toBits(drums.arounds[drum], DOUBLES);
            case AT: return Reals.toBits(drums.ats[drum], DOUBLES);
            case ROPE: return Reals.toBits(drums.ropes[drum], DOUBLES);
            case TURNS: return drums.turns[drum];
            default: return OUTSIDE;
        }
    }

    public int log(int log, int n) {
        if (!isLog(log)) return UNKNOWN;
        if (n < NONE || n > LOG_PLACES) return OUTSIDE;
        logs.renew(log, n);
        return 1;
    }

    public int write(int log, int i, int meter) {
        if (!isLog(log) || !isMeter(meter)) return UNKNOWN;
        int failure = logs.failureAt(log, i);
        if (failure != 0) return tally.fail(failure);
        logs.marks[logs.spot(log, i)] = meters.realIn(meter, logs.laneOf(log));
        return tally.pass(1);
    }

    public int read(int log, int i, int meter) {
        if (!isLog(log) || !isMeter(meter)) return UNKNOWN;
        int failure = logs.failureAt(log, i);
        if (failure != 0) return tally.fail(failure);
        int lane = logs.laneOf(log);
        meters.holdReal(meter, lane, logs.marks[logs.spot(log, i)]);
        return tally.pass(lane);
    }

    public int rest(int log, int i, int k) {
        if (!isLog(log)) return UNKNOWN;
        int failure = logs.failureAt(log, i);
        if (failure == 0) failure = logs.failureAt(log, k);
        if (failure != 0) return tally.fail(failure);
        double x = logs.marks[logs.spot(log, i)];
        double y = logs.marks[logs.spot(log, k)];
        if (Reals.isVoid(LEFT, x, y)) return tally.fail(VOID);
        logs.marks[logs.spot(log, i)] = Reals.leftOf(x, y);
        return tally.pass(1);
    }

    public int copy(int doubles, int floats, boolean back) {
        if (!isLog(doubles) || doubles < FLOAT_LOGS || !isLog(floats) || floats >= FLOAT_LOGS) return UNKNOWN;
        int from = back ? floats : doubles;
        int to = back ? doubles : floats;
        int due = logs.lengths[from];
        if (due == NONE) return tally.fail(MISSING);
        if (due > 0 && logs.lengths[to] == NONE) return tally.fail(MISSING);
        int came = logs.carry(from, to);
        if (came < due) {
            // This failure alone is counted without being answered: the places that came stay copied.
            tally.fail(PLACE);
            return came;
        }
        return tally.pass(came);
    }

    public long whole(int log, int i) {
        if (!isLog(log)) return 0L;
        int failure = logs.failureAt(log, i);
        if (failure != 0) {
            tally.fail(failure);
            return 0L;
        }
        tally.pass(1);
        return (long) logs.marks[logs.spot(log, i)];
    }

    public int spool(int weight, boolean reel) {
        if (weight < 0 || weight > MOST_WEIGHT) return OUTSIDE;
        if (spools.size >= MOST_SPOOLS) return FULL;
        return spools.add(weight, reel);
    }

    public int rack(int rack, boolean reels, int n) {
        if (!isRack(rack)) return UNKNOWN;
        if (n < NONE || n > RACK_PLACES) return OUTSIDE;
        racks.renew(rack, reels, n);
        return 1;
    }

    public int put(int rack, int i, int spool) {
        if (!isRack(rack)) return UNKNOWN;
        if (spool != NONE && !isSpool(spool)) return UNKNOWN;
        int failure = racks.failureAt(rack, i);
        if (failure != 0) return tally.fail(failure);
        if (racks.reelsAlone[rack] && spool != NONE && !spools.reels[spool]) return tally.fail(MISFIT);
        racks.held[racks.spot(rack, i)] = spool;
        return tally.pass(1);
    }

    public int at(int rack, int i) {
        if (!isRack(rack)) return UNKNOWN;
        int failure = racks.failureAt(rack, i);
        if (failure != 0) return tally.fail(failure);
        return tally.pass(racks.held[racks.spot(rack, i)]);
    }

    public int weight(int rack, int i, boolean reel) {
        if (!isRack(rack)) return UNKNOWN;
        int failure = racks.failureAt(rack, i);
        if (failure != 0) return tally.fail(failure);
        int spool = racks.held[racks.spot(rack, i)];
        // Nothing is no misfit either: an empty place is told as MISSING, however it is asked.
        if (!isSpool(spool)) return tally.fail(MISSING);
        if (reel && !spools.reels[spool]) return tally.fail(MISFIT);
        int own = spools.weights[spool];
        return tally.pass(reel ? 2 * own + 1 : own);
    }

    public int brake(int brake, int sort, long grip) {
        if (!isBrake(brake)) return UNKNOWN;
        if (sort < PAD || sort > NO_BRAKE) return OUTSIDE;
        if (sort == NO_BRAKE) {
            brakes.sorts[brake] = NO_BRAKE;
            return 1;
        }
        if (!Reals.isNumber(grip, DOUBLES)) return OUTSIDE;
        brakes.sorts[brake] = sort;
        brakes.grips[brake] = Reals.fromBits(grip, DOUBLES);
        return 1;
    }

    public int slow(int brake, int meter) {
        if (!isBrake(brake) || !isMeter(meter)) return UNKNOWN;
        int sort = brakes.sorts[brake];
        if (sort == NO_BRAKE) return tally.fail(MISSING);
        double v = meters.realIn(meter, DOUBLES);
        double grip = brakes.grips[brake];
        if (Reals.isVoid(sort == PAD ? LEFT : DIVIDE, v, grip)) return tally.fail(VOID);
        meters.holdReal(meter, DOUBLES, sort == PAD ? Reals.leftOf(v, grip) : (double) (float) (v / grip));
        return tally.pass(1);
    }

    public int failed() {
        return tally.latest;
    }

    public int count(int what) {
        if (what < 0 || what > VOID) return OUTSIDE;
        return what == 0 ? spools.size : tally.counts[what];
    }

    private static boolean isMeter(int meter) {
        return meter >= 0 && meter < METERS;
    }

    private static boolean isLane(int lane) {
        return lane >= INTS && lane <= DOUBLES;
    }

    private static boolean isDrum(int drum) {
        return drum >= 0 && drum < DRUMS;
    }

    private static boolean isLog(int log) {
        return log >= 0 && log < LOGS;
    }

    private static boolean isRack(int rack) {
        return rack >= 0 && rack < RACKS;
    }

    private static boolean isBrake(int brake) {
        return brake >= 0 && brake < BRAKES;
    }

    private boolean isSpool(int spool) {
        return spool >= 0 && spool < spools.size;
    }

    /** What the meters hold: whole numbers or, of floats and doubles, real ones; a float is kept as the same double. */
    private static final class Meters {
        final int[] lanes = new int[METERS];
        final long[] wholes = new long[METERS];
        final double[] reals = new double[METERS];

        int widerLane(int x, int y) {
            return Math.max(lanes[x], lanes[y]);
        }

        void holdWhole(int meter, int lane, long number) {
            lanes[meter] = lane;
            wholes[meter] = lane == INTS ? (int) number : number;
        }

        void holdReal(int meter, int lane, double number) {
            lanes[meter] = lane;
            reals[meter] = number;
        }

        /** What a meter holds, turned into ints or longs. */
        long wholeIn(int meter, int lane) {
            if (lanes[meter] <= LONGS) return lane == INTS ? (int) wholes[meter] : wholes[meter];
            // Straight into ints, not by way of longs: beyond the ints their end is due, not the lowest bits.
            return lane == INTS ? (int) reals[meter] : (long) reals[meter];
        }

        /** What a meter holds, turned into floats or doubles. */
        double realIn(int meter, int lane) {
            // Straight into floats, not by way of doubles: a long would be rounded twice.
            if (lanes[meter] <= LONGS) return lane == FLOATS ? (float) wholes[meter] : (double) wholes[meter];
            return lane == FLOATS ? (float) reals[meter] : reals[meter];
        }
    }

    private static final class Drums {
        final double[] arounds = new double[DRUMS];
        final double[] ats = new double[DRUMS];
        final double[] ropes = new double[DRUMS];
        final long[] turns = new long[DRUMS];

        Drums() {
            for (int drum = 0; drum < DRUMS; drum++) arounds[drum] = 1.0;
        }

        void renew(int drum, double around) {
            arounds[drum] = around;
            ats[drum] = 0.0;
            ropes[drum] = 0.0;
            turns[drum] = 0L;
        }

        /** Winds v, which is not endless; then neither is s, since AT stays below 1000000.0. */
        void takeUp(int drum, double v) {
            double around = arounds[drum];
            double s = ats[drum] + v;
            turns[drum] += (long) (s / around);
            ats[drum] = Reals.leftOf(s, around);
            ropes[drum] += v;
        }
    }

    /** All logs in one row of doubles, LOG_PLACES for each; places of float logs hold doubles that are floats, too. */
    private static final class Logs {
        final int[] lengths = new int[LOGS];
        final double[] marks = new double[LOGS * LOG_PLACES];

        Logs() {
            for (int log = 0; log < LOGS; log++) lengths[log] = NONE;
        }

        int laneOf(int log) {
            return log < FLOAT_LOGS ? FLOATS : DOUBLES;
        }

        int spot(int log, int i) {
            return log * LOG_PLACES + i;
        }

        int failureAt(int log, int i) {
            if (lengths[log] == NONE) return MISSING;
            return i < 0 || i >= lengths[log] ? PLACE : 0;
        }

        void renew(int log, int n) {
            lengths[log] = n;
            for (int i = 0; i < n; i++) marks[spot(log, i)] = 0.0;
        }

        /** Copies as many places as both logs have, and tells how many. */
        int carry(int from, int to) {
            int places = Math.max(0, Math.min(lengths[from], lengths[to]));
            for (int i = 0; i < places; i++) {
                double mark = marks[spot(from, i)];
                marks[spot(to, i)] = laneOf(to) == FLOATS ? (float) mark : mark;
            }
            return places;
        }
    }

    private static final class Spools {
        final int[] weights = new int[MOST_SPOOLS];
        final boolean[] reels = new boolean[MOST_SPOOLS];
        int size = 0;

        int add(int weight, boolean reel) {
            int number = size;
            weights[number] = weight;
            reels[number] = reel;
            size = number + 1;
            return number;
        }
    }

    /** All racks in one row, RACK_PLACES for each, of spools' numbers or NONE. */
    private static final class Racks {
        final int[] lengths = new int[RACKS];
        final boolean[] reelsAlone = new boolean[RACKS];
        final int[] held = new int[RACKS * RACK_PLACES];

        Racks() {
            for (int rack = 0; rack < RACKS; rack++) lengths[rack] = NONE;
        }

        int spot(int rack, int i) {
            return rack * RACK_PLACES + i;
        }

        int failureAt(int rack, int i) {
            if (lengths[rack] == NONE) return MISSING;
            return i < 0 || i >= lengths[rack] ? PLACE : 0;
        }

        void renew(int rack, boolean reels, int n) {
            lengths[rack] = n;
            reelsAlone[rack] = reels;
            for (int i = 0; i < n; i++) held[spot(rack, i)] = NONE;
        }
    }

    private static final class Brakes {
        final int[] sorts = new int[BRAKES];
        final double[] grips = new double[BRAKES];

        Brakes() {
            for (int brake = 0; brake < BRAKES; brake++) sorts[brake] = NO_BRAKE;
        }
    }

    /** Of the calls that may fail: how many did, by which failure, and how the latest one ended. */
    private static final class Tally {
        final int[] counts = new int[VOID + 1];
        int latest = 0;

        int fail(int failure) {
            counts[failure]++;
            latest = failure;
            return -10 - failure;
        }

        int pass(int answer) {
            latest = 0;
            return answer;
        }
    }

    private static final class Wholes {
        /** For ints, too: no outcome of two ints leaves the longs, so that its lowest 32 bits are the ints' own. */
        static long outcome(int act, long x, long y) {
            switch (act) {
                case ADD: return x + y;
                case SUBTRACT: return x - y;
                case MULTIPLY: return x * y;
                case DIVIDE: return y == 0L ? 0L : x / y;
                default: return y == 0L ? 0L : x % y;
            }
        }
    }

    /**
     * Floats and doubles by + - * /, comparisons and casts alone: their bits are found by scaling with powers of two,
     * which is exact, and what is left of one by another is found on whole numbers.
     */
    private static final class Reals {
        private static final int STEP = 60;

        private static int fractionBits(int lane) {
            return lane == FLOATS ? 23 : 52;
        }

        private static int bias(int lane) {
            return lane == FLOATS ? 127 : 1023;
        }

        /** The bits of what is endless above; those of no number follow them. */
        private static long endlessBits(int lane) {
            return (2L * bias(lane) + 1L) << fractionBits(lane);
        }

        /** A float's sign fills all bits above it, too, so that its bits are told as an int. */
        private static long signBits(int lane) {
            return lane == FLOATS ? -1L << 31 : -1L << 63;
        }

        private static long withoutSign(long bits, int lane) {
            return bits & ~signBits(lane);
        }

        static boolean isNumber(long bits, int lane) {
            return withoutSign(bits, lane) <= endlessBits(lane);
        }

        static boolean isEndless(double v) {
            return v > 1.7976931348623157E308 || v < -1.7976931348623157E308;
        }

        /** -0.0 is minus, too, and only what 1.0 is by it tells it from 0.0. */
        static boolean isMinus(double v) {
            return v < 0.0 || (v == 0.0 && 1.0 / v < 0.0);
        }

        /** The number that bits tell (of floats given as an int's), which is one. */
        static double fromBits(long bits, int lane) {
            double size = fromSizeBits(withoutSign(bits, lane), lane);
            return bits < 0L ? size * -1.0 : size;
        }

        private static double fromSizeBits(long bits, int lane) {
            if (bits >= endlessBits(lane)) return 1.0 / 0.0;
            return scaled((double) digits(bits, lane), unit(bits, lane));
        }

        static long toBits(double v, int lane) {
            return isMinus(v) ? signBits(lane) | toSizeBits(v * -1.0, lane) : toSizeBits(v, lane);
        }

        private static long toSizeBits(double size, int lane) {
            if (isEndless(size)) return endlessBits(lane);
            int fraction = fractionBits(lane);
            int lowest = 1 - bias(lane);
            if (size < scaled(1.0, lowest)) return (long) scaled(size, fraction - lowest);
            int power = powerOf(size);
            double above = scaled(size, -power) - 1.0;
            return ((long) (power + bias(lane)) << fraction) + (long) scaled(above, fraction);
        }

        /** Of a size of 2^-1022 or more that is not endless: the power of two that is next below it, or it. */
        private static int powerOf(double size) {
            int power = 0;
            double near = size;
            for (int step = 512; step > 0; step = step / 2) {
                if (near >= scaled(1.0, step)) {
                    near = scaled(near, -step);
                    power += step;
                } else if (near < scaled(1.0, 1 - step)) {
                    near = scaled(near, step);
                    power -= step;
                }
            }
            return power;
        }

        /** The whole number that, with the power of two that unit() tells, makes the size that bits tell. */
        private static long digits(long bits, int lane) {
            long one = 1L << fractionBits(lane);
            return bits < one ? bits : (bits & (one - 1L)) + one;
        }

        private static int unit(long bits, int lane) {
            int fraction = fractionBits(lane);
            return Math.max(1, (int) (bits >> fraction)) - bias(lane) - fraction;
        }

        /** v by 2^power, in steps, since 2^power itself may be beyond all doubles; exact if the outcome is a double. */
        private static double scaled(double v, int power) {
            double out = v;
            int left = power;
            for (; left > STEP; left -= STEP) out = out * (double) (1L << STEP);
            for (; left < -STEP; left += STEP) out = out / (double) (1L << STEP);
            return left >= 0 ? out * (double) (1L << left) : out / (double) (1L << -left);
        }

        /** Whether the outcome would be no number or, of what is left, is told to be none. */
        static boolean isVoid(int act, double x, double y) {
            boolean bothEndless = isEndless(x) && isEndless(y);
            switch (act) {
                case ADD: return bothEndless && x != y;
                case SUBTRACT: return bothEndless && x == y;
                case MULTIPLY: return (isEndless(x) && y == 0.0) || (x == 0.0 && isEndless(y));
                case DIVIDE: return bothEndless || (x == 0.0 && y == 0.0);
                default: return isEndless(x) || y == 0.0;
            }
        }

        static double outcome(int act, double x, double y) {
            switch (act) {
                case ADD: return x + y;
                case SUBTRACT: return x - y;
                case MULTIPLY: return x * y;
                case DIVIDE: return x / y;
                default: return leftOf(x, y);
            }
        }

        static float floatOutcome(int act, float x, float y) {
            switch (act) {
                case ADD: return x + y;
                case SUBTRACT: return x - y;
                case MULTIPLY: return x * y;
                case DIVIDE: return x / y;
                // What is left of floats by doubles' means is a float: no digit of it lies below both of theirs.
                default: return (float) leftOf(x, y);
            }
        }

        /** What is left of x, not endless, by y, not 0.0: the digits are divided at length, some bits at a time. */
        static double leftOf(double x, double y) {
            if (isEndless(x) || isEndless(y)) return x;
            long whole = withoutSign(toBits(x, DOUBLES), DOUBLES);
            long part = withoutSign(toBits(y, DOUBLES), DOUBLES);
            long by = digits(part, DOUBLES);
            if (by == 0L || whole < part) return x;
            int unit = unit(part, DOUBLES);
            long left = digits(whole, DOUBLES) % by;
            int most = 63 - 53;
            for (int gap = unit(whole, DOUBLES) - unit; gap > 0; gap -= most) {
                left = (left << Math.min(gap, most)) % by;
            }
            double size = scaled((double) left, unit);
            return isMinus(x) ? size * -1.0 : size;
        }
    }
}
