import java.util.function.ToLongFunction;

/** What the tests of the edges share: answers that are due, and a walk in which everything holds something. */
final class Due {
    static final int INTS = 0, LONGS = 1, FLOATS = 2, DOUBLES = 3;
    static final int NONE = -1, UNKNOWN = -1001, OUTSIDE = -1002, FULL = -1003;
    static final int MISSING = -11, PLACE = -12, MISFIT = -13, ZERO = -14, VOID = -15;
    static final double ENDLESS = Double.POSITIVE_INFINITY;
    static final float ENDLESS_FLOAT = Float.POSITIVE_INFINITY;
    static final int LEAST = Integer.MIN_VALUE, MOST = Integer.MAX_VALUE;
    static final long NO_DOUBLE = 0x7ff8000000000000L, NO_FLOAT = 0x7fc00000L;

    private static String sentence = "";
    private static int sentences = 0;
    private static int wrong = 0;

    private Due() {
    }

    /** One test: the words of the document that it is about, and what it does. */
    static void test(String words, Runnable work) {
        sentence = words;
        sentences++;
        work.run();
    }

    static void end() {
        System.out.println(wrong == 0 ? sentences + " sentences hold" : wrong + " answers are not as due");
        if (wrong != 0) System.exit(1);
    }

    static void is(String call, long got, long want) {
        if (got != want) told(call, Long.toString(got), Long.toString(want));
    }

    private static void told(String call, String got, String want) {
        wrong++;
        System.out.println(sentence + "\n  " + call + " answered " + got + ", due is " + want);
    }

    static long bits(double v) {
        return Double.doubleToRawLongBits(v);
    }

    static long bits(float v) {
        return Float.floatToRawIntBits(v);
    }

    static void holds(RopeDrums x, int meter, int lane, long bits) {
        is("lane(" + meter + ")", x.lane(meter), lane);
        is("bits(" + meter + ")", x.bits(meter), bits);
    }

    /** Numbers that name nothing where 0 .. most do. */
    static int[] notUpTo(int most) {
        return new int[] {-1, most + 1, -2, LEAST, MOST, UNKNOWN};
    }

    /**
     * Meters: 0 int 7, 1 long 2^40 + 1, 2 float 2.5, 3 double 0.1, 4 endless double, 5 float -0.0, 6 int 0, 7 long 0,
     * 8 double 0.0, 9 endless float below. Logs: 0 of 3 places, 1 of none, 2 missing, 3 of 16, and so 4 to 7. Spools:
     * 0 none, 1 and 2 reels, 3 none. Racks: 0 of 3 places, 1 of 2 for reels, 2 of none, 3 missing, 4 of 12 for reels.
     * Brakes: 0 pad of 2.5, 1 drag of 3.0, 2 missing, 3 pad of 0.0. What failed latest failed by ZERO.
     */
    static RopeDrums filled() {
        RopeDrums x = new RopeDrums();
        fillLogs(x);
        x.drum(0, bits(2.5));
        x.drum(5, bits(0.3));
        x.set(0, INTS, 7);
        x.set(3, DOUBLES, bits(0.1));
        x.wind(0, 0);
        x.wind(5, 3);
        fillRacks(x);
        x.brake(0, 0, bits(2.5));
        x.brake(1, 1, bits(3.0));
        x.brake(3, 0, bits(0.0));
        x.set(1, LONGS, (1L << 40) + 1);
        x.set(2, FLOATS, bits(2.5f));
        x.set(4, DOUBLES, bits(ENDLESS));
        x.set(5, FLOATS, bits(-0.0f));
        x.set(7, LONGS, 0);
        x.set(8, DOUBLES, bits(0.0));
        x.set(9, FLOATS, bits(-ENDLESS_FLOAT));
        failByEach(x);
        return x;
    }

    private static void fillLogs(RopeDrums x) {
        double[] marks = {2.5, 0.0, ENDLESS};
        for (int log = 0; log < 8; log += 4) {
            x.log(log, 3);
            x.log(log + 1, 0);
            x.log(log + 3, 16);
            for (int i = 0; i < marks.length; i++) {
                x.set(0, DOUBLES, bits(marks[i]));
                x.write(log, i, 0);
                x.write(log + 3, 15 - i, 0);
            }
        }
    }

    private static void fillRacks(RopeDrums x) {
        x.spool(5, false);
        x.spool(6, true);
        x.spool(100000, true);
        x.spool(0, false);
        x.rack(0, false, 3);
        x.rack(1, true, 2);
        x.rack(2, false, 0);
        x.rack(4, true, 12);
        x.put(0, 0, 0);
        x.put(0, 1, 1);
        x.put(1, 0, 1);
        x.put(4, 11, 2);
    }

    private static void failByEach(RopeDrums x) {
        x.at(3, 0);
        for (int n = 0; n < 2; n++) x.at(0, 3);
        for (int n = 0; n < 3; n++) x.put(1, 1, 0);
        for (int n = 0; n < 5; n++) x.wind(0, 4);
        for (int n = 0; n < 4; n++) x.reckon(3, 0, 6, 0);
    }

    /** What failed() and count() tell. */
    private static String tally(RopeDrums x) {
        StringBuilder out = new StringBuilder("failed " + x.failed() + ", counts");
        for (int what = 0; what <= 5; what++) out.append(' ').append(x.count(what));
        return out.toString();
    }

    /** All that a walk holds, as far as calls can find it; these change it. */
    private static String things(RopeDrums x) {
        StringBuilder out = new StringBuilder();
        for (int m = 0; m < 10; m++) out.append(" m").append(x.lane(m)).append(':').append(x.bits(m));
        for (int d = 0; d < 6; d++) {
            for (int what = 0; what < 4; what++) out.append(" d").append(x.told(d, what));
        }
        for (int log = 0; log < 8; log++) logIn(x, log, out);
        for (int rack = 0; rack < 5; rack++) rackIn(x, rack, out);
        for (int b = 0; b < 4; b++) {
            x.set(0, DOUBLES, bits(7.3));
            out.append(" b").append(x.slow(b, 0)).append(':').append(x.bits(0));
        }
        x.rack(0, false, 1);
        for (int s = 0; s <= 30 && x.put(0, 0, s) == 1; s++) {
            out.append(" s").append(x.weight(0, 0, false)).append(':').append(x.weight(0, 0, true));
        }
        return out.toString();
    }

    private static void logIn(RopeDrums x, int log, StringBuilder out) {
        int answer = x.read(log, 0, 0);
        for (int i = 1; answer > 0; i++) {
            out.append(" l").append(x.bits(0));
            answer = x.read(log, i, 0);
        }
        out.append(" l").append(answer);
    }

    private static void rackIn(RopeDrums x, int rack, StringBuilder out) {
        int answer = x.at(rack, 0);
        for (int i = 1; answer >= NONE; i++) {
            out.append(" r").append(answer);
            answer = x.at(rack, i);
        }
        // A spool that is no reel tells whether the rack is for reels alone.
        out.append(" r").append(answer).append(':').append(x.put(rack, 0, 0));
    }

    private static void alike(String call, String got, String want) {
        if (!got.equals(want)) told(call, got, want);
    }

    /** The call on a filled walk answers as due, and nothing is counted or changed, nor what failed() tells. */
    static void refuses(String call, ToLongFunction<RopeDrums> work, long want) {
        RopeDrums x = filled();
        is(call, work.applyAsLong(x), want);
        RopeDrums untouched = filled();
        alike("failed(), count() after " + call, tally(x), tally(untouched));
        alike("all calls after " + call, things(x), things(untouched));
    }

    /** The call on a filled walk fails: it answers that, counts it once, failed() tells it, and nothing else changes. */
    static void fails(String call, ToLongFunction<RopeDrums> work, int failure) {
        failsSilently(call, work, failure, failure);
    }

    /** As fails(), where the answer does not tell the failure. */
    static void failsSilently(String call, ToLongFunction<RopeDrums> work, int failure, long answer) {
        RopeDrums x = filled();
        is(call, work.applyAsLong(x), answer);
        RopeDrums untouched = filled();
        is("failed() after " + call, x.failed(), -10 - failure);
        for (int what = 0; what <= 5; what++) {
            int more = what == -10 - failure ? 1 : 0;
            is("count(" + what + ") after " + call, x.count(what), untouched.count(what) + more);
        }
        alike("all calls after " + call, things(x), things(untouched));
    }

    /** The call on a filled walk, in which the latest had failed, does not fail: failed() tells that, nothing is counted. */
    static void passes(String call, ToLongFunction<RopeDrums> work, long want) {
        RopeDrums x = filled();
        is(call, work.applyAsLong(x), want);
        RopeDrums untouched = filled();
        is("failed() after " + call, x.failed(), 0);
        for (int what = 1; what <= 5; what++) is("count(" + what + ") after " + call, x.count(what), untouched.count(what));
    }
}
