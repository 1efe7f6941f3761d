/** The document's promises one by one: ordinary inputs, the edges that it names, and wrong inputs. */
public final class PromisesTest {
    private static final int INTS = 0, LONGS = 1, FLOATS = 2, DOUBLES = 3;
    private static final int UNKNOWN = -1001, OUTSIDE = -1002, FULL = -1003;
    private static final int MISSING = -11, PLACE = -12, MISFIT = -13, ZERO = -14, VOID = -15;
    private static final double ENDLESS = Double.POSITIVE_INFINITY;
    private static final int[] WRONG = {-1, Integer.MIN_VALUE, Integer.MAX_VALUE, -1001};

    private static int wrong = 0;
    private static String part = "";

    private static void due(String call, long got, long want) {
        if (got != want) {
            wrong++;
            System.out.println(part + ": " + call + " answered " + got + ", due is " + want);
        }
    }

    private static long bits(double v) {
        return Double.doubleToRawLongBits(v);
    }

    private static long bits(float v) {
        return Float.floatToRawIntBits(v);
    }

    private static void holds(RopeDrums x, int meter, int lane, long bits) {
        due("lane(" + meter + ")", x.lane(meter), lane);
        due("bits(" + meter + ")", x.bits(meter), bits);
    }

    private static void counts(RopeDrums x, int missing, int place, int misfit, int zero, int voids) {
        int[] want = {missing, place, misfit, zero, voids};
        for (int what = 1; what <= 5; what++) due("count(" + what + ")", x.count(what), want[what - 1]);
    }

    public static void main(String[] args) {
        constants();
        newObject();
        set();
        setOfReals();
        bitsAndLane();
        turnWholes();
        turnReals();
        reckonWholes();
        reckonReals();
        reckonLeft();
        reckonFailures();
        compare();
        drum();
        wind();
        told();
        log();
        write();
        read();
        rest();
        copy();
        copyFailures();
        whole();
        spool();
        rack();
        put();
        at();
        weight();
        brake();
        slow();
        failed();
        count();
        manyCalls();
        System.out.println(wrong == 0 ? "all promises hold" : wrong + " answers are not as due");
        if (wrong != 0) System.exit(1);
    }

    private static void constants() {
        part = "constants";
        due("NONE", RopeDrums.NONE, -1);
        due("UNKNOWN", RopeDrums.UNKNOWN, UNKNOWN);
        due("OUTSIDE", RopeDrums.OUTSIDE, OUTSIDE);
        due("FULL", RopeDrums.FULL, FULL);
    }

    private static void newObject() {
        part = "promise 1";
        RopeDrums x = new RopeDrums();
        due("failed()", x.failed(), 0);
        due("count(0)", x.count(0), 0);
        counts(x, 0, 0, 0, 0, 0);
        for (int m = 0; m < 10; m++) holds(x, m, INTS, 0);
        for (int d = 0; d < 6; d++) {
            due("told(" + d + ", 0)", x.told(d, 0), bits(1.0));
            for (int what = 1; what <= 3; what++) due("told(" + d + ", " + what + ")", x.told(d, what), 0);
        }
        for (int l = 0; l < 8; l++) due("read(" + l + ", 0, 0)", x.read(l, 0, 0), MISSING);
        for (int r = 0; r < 5; r++) due("at(" + r + ", 0)", x.at(r, 0), MISSING);
        for (int b = 0; b < 4; b++) due("slow(" + b + ", 0)", x.slow(b, 0), MISSING);
        counts(x, 17, 0, 0, 0, 0);
        RopeDrums y = new RopeDrums();
        due("count(1) of another", y.count(1), 0);
        due("put(0, 0, 0)", y.put(0, 0, 0), UNKNOWN);
    }

    private static void set() {
        part = "promise 2";
        RopeDrums x = new RopeDrums();
        due("set int", x.set(9, INTS, -5), 1);
        holds(x, 9, INTS, -5);
        due("set int beyond", x.set(9, INTS, 0x1_8000_0000L), 1);
        holds(x, 9, INTS, Integer.MIN_VALUE);
        due("set int lowest bits", x.set(9, INTS, -0x1_0000_0001L), 1);
        holds(x, 9, INTS, -1);
        due("set long", x.set(0, LONGS, Long.MIN_VALUE), 1);
        holds(x, 0, LONGS, Long.MIN_VALUE);
        for (int m : WRONG) due("set(" + m + ")", x.set(m, INTS, 1), UNKNOWN);
        due("set(10)", x.set(10, INTS, 1), UNKNOWN);
        due("set(10) ahead of lane", x.set(10, 4, 1), UNKNOWN);
        for (int lane : WRONG) due("set lane " + lane, x.set(0, lane, 1), OUTSIDE);
        due("set lane 4", x.set(0, 4, 1), OUTSIDE);
        holds(x, 0, LONGS, Long.MIN_VALUE);
        due("failed()", x.failed(), 0);
    }

    private static void setOfReals() {
        part = "promise 2, floats and doubles";
        RopeDrums x = new RopeDrums();
        float[] floats = {0.0f, -0.0f, 1.0f, -1.0f, 0.1f, Float.MIN_VALUE, -Float.MIN_VALUE, Float.MIN_NORMAL,
            Math.nextDown(Float.MIN_NORMAL), Float.MAX_VALUE, -Float.MAX_VALUE, Float.POSITIVE_INFINITY,
            Float.NEGATIVE_INFINITY, 16777215.0f, 1.9999999f};
        for (float f : floats) {
            due("set float " + f, x.set(1, FLOATS, bits(f)), 1);
            holds(x, 1, FLOATS, bits(f));
        }
        double[] doubles = {0.0, -0.0, 1.0, -1.0, 0.1, Double.MIN_VALUE, -Double.MIN_VALUE, Double.MIN_NORMAL,
            Math.nextDown(Double.MIN_NORMAL), Double.MAX_VALUE, -Double.MAX_VALUE, ENDLESS, -ENDLESS, 9007199254740991.0,
            1e-310, 1e308, Math.nextDown(2.0)};
        for (double d : doubles) {
            due("set double " + d, x.set(2, DOUBLES, bits(d)), 1);
            holds(x, 2, DOUBLES, bits(d));
        }
        x.set(1, FLOATS, bits(2.5f));
        int[] floatNaNs = {0x7f800001, 0x7fc00000, 0x7fffffff, 0xff800001, 0xffffffff};
        for (int nan : floatNaNs) due("set float " + nan, x.set(1, FLOATS, nan), OUTSIDE);
        due("set float, wide", x.set(1, FLOATS, 0xffc00000L), OUTSIDE);
        holds(x, 1, FLOATS, bits(2.5f));
        due("set float by the lowest bits", x.set(1, FLOATS, 0xbf800000L), 1);
        holds(x, 1, FLOATS, bits(-1.0f));
        long[] doubleNaNs = {0x7ff0000000000001L, 0x7ff8000000000000L, Long.MAX_VALUE, 0xfff0000000000001L, -1L};
        x.set(2, DOUBLES, bits(2.5));
        for (long nan : doubleNaNs) due("set double " + nan, x.set(2, DOUBLES, nan), OUTSIDE);
        due("set(10) ahead of no number", x.set(10, DOUBLES, -1L), UNKNOWN);
        holds(x, 2, DOUBLES, bits(2.5));
    }

    private static void bitsAndLane() {
        part = "promises 3, 4";
        RopeDrums x = new RopeDrums();
        x.set(3, FLOATS, bits(-1.5f));
        due("bits(3)", x.bits(3), (int) 0xbfc00000);
        due("lane(3)", x.lane(3), FLOATS);
        for (int m : WRONG) {
            due("bits(" + m + ")", x.bits(m), UNKNOWN);
            due("lane(" + m + ")", x.lane(m), UNKNOWN);
        }
        due("bits(10)", x.bits(10), UNKNOWN);
        due("lane(10)", x.lane(10), UNKNOWN);
    }

    private static void turned(int lane, long from, int into, long want) {
        RopeDrums x = new RopeDrums();
        x.set(4, lane, from);
        due("turn(4, " + into + ") of lane " + lane + ", " + from, x.turn(4, into), 1);
        holds(x, 4, into, want);
        due("failed()", x.failed(), 0);
    }

    private static void turnWholes() {
        part = "promise 5";
        turned(INTS, -7, INTS, -7);
        turned(INTS, Integer.MIN_VALUE, LONGS, Integer.MIN_VALUE);
        turned(INTS, 16777217, FLOATS, bits(16777216.0f));
        turned(INTS, 16777219, FLOATS, bits(16777220.0f));
        turned(INTS, 16777217, DOUBLES, bits(16777217.0));
        turned(INTS, 0, DOUBLES, bits(0.0));
        turned(LONGS, 0x1_ffff_ffffL, INTS, -1);
        turned(LONGS, Long.MAX_VALUE, DOUBLES, bits(9.223372036854775807E18));
        turned(LONGS, 9007199254740993L, DOUBLES, bits(9007199254740992.0));
        // By way of doubles this one would be rounded twice, to the float below.
        turned(LONGS, 0x4000004000000001L, FLOATS, bits(4.6116865E18f));
        RopeDrums x = new RopeDrums();
        for (int m : WRONG) due("turn(" + m + ", 0)", x.turn(m, 0), UNKNOWN);
        due("turn(10, 0)", x.turn(10, 0), UNKNOWN);
        due("turn(10, 4)", x.turn(10, 4), UNKNOWN);
        for (int lane : WRONG) due("turn(0, " + lane + ")", x.turn(0, lane), OUTSIDE);
        due("turn(0, 4)", x.turn(0, 4), OUTSIDE);
    }

    private static void turnReals() {
        part = "promise 5, floats and doubles";
        turned(FLOATS, bits(-1.9f), INTS, -1);
        turned(FLOATS, bits(3e9f), INTS, Integer.MAX_VALUE);
        turned(FLOATS, bits(3e9f), LONGS, 3000000000L);
        turned(FLOATS, bits(Float.NEGATIVE_INFINITY), LONGS, Long.MIN_VALUE);
        turned(FLOATS, bits(0.1f), DOUBLES, bits((double) 0.1f));
        turned(FLOATS, bits(Float.MIN_VALUE), DOUBLES, bits((double) Float.MIN_VALUE));
        turned(FLOATS, bits(-0.0f), DOUBLES, bits(-0.0));
        turned(DOUBLES, bits(-0.9), INTS, 0);
        turned(DOUBLES, bits(4294967297.0), INTS, Integer.MAX_VALUE);
        turned(DOUBLES, bits(-2147483648.5), INTS, Integer.MIN_VALUE);
        turned(DOUBLES, bits(-ENDLESS), INTS, Integer.MIN_VALUE);
        turned(DOUBLES, bits(9.3e18), LONGS, Long.MAX_VALUE);
        turned(DOUBLES, bits(ENDLESS), LONGS, Long.MAX_VALUE);
        turned(DOUBLES, bits(0.1), FLOATS, bits(0.1f));
        turned(DOUBLES, bits(16777217.0), FLOATS, bits(16777216.0f));
        turned(DOUBLES, bits(16777219.0), FLOATS, bits(16777220.0f));
        turned(DOUBLES, bits(1e39), FLOATS, bits(Float.POSITIVE_INFINITY));
        turned(DOUBLES, bits(-1e39), FLOATS, bits(Float.NEGATIVE_INFINITY));
        turned(DOUBLES, bits(-1e-60), FLOATS, bits(-0.0f));
        turned(DOUBLES, bits(1e-45), FLOATS, bits(Float.MIN_VALUE));
        turned(DOUBLES, bits(-0.0), LONGS, 0);
    }

    private static void outcome(int act, int lane, long x, long y, long want) {
        RopeDrums r = new RopeDrums();
        r.set(0, lane, x);
        r.set(1, lane, y);
        due("reckon(" + act + ") of lane " + lane + ", " + x + ", " + y, r.reckon(act, 0, 1, 2), lane);
        holds(r, 2, lane, want);
        holds(r, 0, lane, x);
        holds(r, 1, lane, y);
    }

    private static void reckonWholes() {
        part = "promise 6, ints and longs";
        int least = Integer.MIN_VALUE;
        long most = Long.MAX_VALUE;
        outcome(0, INTS, Integer.MAX_VALUE, 1, least);
        outcome(1, INTS, least, 1, Integer.MAX_VALUE);
        outcome(2, INTS, 65536, 65537, 65536);
        outcome(3, INTS, -7, 2, -3);
        outcome(3, INTS, least, -1, least);
        outcome(4, INTS, -7, 2, -1);
        outcome(4, INTS, 7, -2, 1);
        outcome(4, INTS, least, -1, 0);
        outcome(0, LONGS, most, 1, Long.MIN_VALUE);
        outcome(1, LONGS, Long.MIN_VALUE, 1, most);
        outcome(2, LONGS, most, 2, -2);
        outcome(3, LONGS, 7, -2, -3);
        outcome(3, LONGS, Long.MIN_VALUE, -1, Long.MIN_VALUE);
        outcome(4, LONGS, Long.MIN_VALUE, -1, 0);
        outcome(4, LONGS, -10000000000L, 3, -1);
        RopeDrums x = new RopeDrums();
        x.set(0, INTS, Integer.MAX_VALUE);
        x.set(1, LONGS, 1);
        due("int + long", x.reckon(0, 0, 1, 0), LONGS);
        holds(x, 0, LONGS, 2147483648L);
        x.set(2, INTS, 3);
        due("into y", x.reckon(2, 2, 2, 2), INTS);
        holds(x, 2, INTS, 9);
    }

    private static void reckonReals() {
        part = "promise 6, floats and doubles";
        outcome(0, FLOATS, bits(0.1f), bits(0.2f), bits(0.1f + 0.2f));
        outcome(1, FLOATS, bits(16777216.0f), bits(0.25f), bits(16777216.0f));
        outcome(1, FLOATS, bits(0.5f), bits(2.0f), bits(-1.5f));
        outcome(2, FLOATS, bits(1e30f), bits(1e30f), bits(Float.POSITIVE_INFINITY));
        outcome(2, FLOATS, bits(1e-30f), bits(-1e-30f), bits(-0.0f));
        outcome(3, FLOATS, bits(1.0f), bits(3.0f), bits(1.0f / 3.0f));
        outcome(3, FLOATS, bits(-1.0f), bits(0.0f), bits(Float.NEGATIVE_INFINITY));
        outcome(0, DOUBLES, bits(0.1), bits(0.2), bits(0.1 + 0.2));
        outcome(1, DOUBLES, bits(1.0), bits(1.0), bits(0.0));
        outcome(0, DOUBLES, bits(-0.0), bits(-0.0), bits(-0.0));
        outcome(2, DOUBLES, bits(1e308), bits(-10.0), bits(-ENDLESS));
        outcome(2, DOUBLES, bits(3e-320), bits(0.5), bits(3e-320 * 0.5));
        outcome(2, DOUBLES, bits(-ENDLESS), bits(2.0), bits(-ENDLESS));
        outcome(2, DOUBLES, bits(-2.0), bits(ENDLESS), bits(-ENDLESS));
        outcome(2, DOUBLES, bits(0.0), bits(-2.0), bits(-0.0));
        outcome(2, DOUBLES, bits(-2.0), bits(0.0), bits(-0.0));
        outcome(3, DOUBLES, bits(1.0), bits(-0.0), bits(-ENDLESS));
        outcome(3, DOUBLES, bits(5.0), bits(-ENDLESS), bits(-0.0));
        RopeDrums x = new RopeDrums();
        x.set(0, LONGS, 16777217);
        x.set(1, FLOATS, bits(1.0f));
        due("long * float", x.reckon(2, 0, 1, 2), FLOATS);
        holds(x, 2, FLOATS, bits(16777216.0f));
        x.set(1, DOUBLES, bits(0.5));
        x.set(3, FLOATS, bits(0.1f));
        due("float + double", x.reckon(0, 3, 1, 4), DOUBLES);
        holds(x, 4, DOUBLES, bits(0.1f + 0.5));
    }

    private static void reckonLeft() {
        part = "promise 6, what is left";
        outcome(4, FLOATS, bits(5.5f), bits(2.0f), bits(1.5f));
        outcome(4, FLOATS, bits(-5.5f), bits(2.0f), bits(-1.5f));
        outcome(4, FLOATS, bits(Float.MAX_VALUE), bits(Float.MIN_VALUE), bits(0.0f));
        outcome(4, FLOATS, bits(Float.MAX_VALUE), bits(0.1f), bits(Float.MAX_VALUE % 0.1f));
        outcome(4, DOUBLES, bits(5.5), bits(-2.0), bits(1.5));
        outcome(4, DOUBLES, bits(-6.0), bits(2.0), bits(-0.0));
        outcome(4, DOUBLES, bits(-0.0), bits(2.0), bits(-0.0));
        outcome(4, DOUBLES, bits(1.0), bits(0.1), bits(1.0 % 0.1));
        outcome(4, DOUBLES, bits(Double.MAX_VALUE), bits(3 * Double.MIN_VALUE), bits(Double.MAX_VALUE % (3 * Double.MIN_VALUE)));
        outcome(4, DOUBLES, bits(1e308), bits(0.3), bits(1e308 % 0.3));
        outcome(4, DOUBLES, bits(7e-320), bits(3e-320), bits(7e-320 % 3e-320));
        outcome(4, DOUBLES, bits(-3.25), bits(ENDLESS), bits(-3.25));
        outcome(4, DOUBLES, bits(3.25), bits(-ENDLESS), bits(3.25));
        outcome(4, DOUBLES, bits(1.0), bits(Math.nextUp(1.0)), bits(1.0));
    }

    private static void reckonFails(int act, int lane, long x, long y, int want) {
        RopeDrums r = new RopeDrums();
        r.set(0, lane, x);
        r.set(1, lane, y);
        r.set(2, INTS, 77);
        due("reckon(" + act + ") of lane " + lane + ", " + x + ", " + y, r.reckon(act, 0, 1, 2), want);
        holds(r, 2, INTS, 77);
        due("failed()", r.failed(), -10 - want);
        due("count()", r.count(-10 - want), 1);
    }

    private static void reckonFailures() {
        part = "promise 6, failures";
        for (int lane = INTS; lane <= LONGS; lane++) {
            reckonFails(3, lane, 5, 0, ZERO);
            reckonFails(4, lane, 0, 0, ZERO);
        }
        long up = bits(ENDLESS), down = bits(-ENDLESS);
        reckonFails(0, DOUBLES, up, down, VOID);
        reckonFails(1, DOUBLES, down, down, VOID);
        reckonFails(2, DOUBLES, bits(-0.0), up, VOID);
        reckonFails(2, DOUBLES, down, bits(0.0), VOID);
        reckonFails(3, DOUBLES, bits(0.0), bits(-0.0), VOID);
        reckonFails(3, DOUBLES, up, down, VOID);
        reckonFails(4, DOUBLES, up, bits(2.0), VOID);
        reckonFails(4, DOUBLES, down, up, VOID);
        reckonFails(4, DOUBLES, bits(2.0), bits(-0.0), VOID);
        long fup = bits(Float.POSITIVE_INFINITY), fdown = bits(Float.NEGATIVE_INFINITY);
        reckonFails(0, FLOATS, fdown, fup, VOID);
        reckonFails(1, FLOATS, fup, fup, VOID);
        reckonFails(2, FLOATS, bits(0.0f), fup, VOID);
        reckonFails(3, FLOATS, bits(0.0f), bits(0.0f), VOID);
        reckonFails(4, FLOATS, fup, bits(1.0f), VOID);
        reckonFails(4, FLOATS, bits(1.0f), bits(0.0f), VOID);
        RopeDrums x = new RopeDrums();
        for (int m : WRONG) {
            due("reckon x " + m, x.reckon(0, m, 0, 0), UNKNOWN);
            due("reckon y " + m, x.reckon(0, 0, m, 0), UNKNOWN);
            due("reckon into " + m, x.reckon(0, 0, 0, m), UNKNOWN);
            due("reckon act " + m, x.reckon(m, 0, 0, 0), OUTSIDE);
        }
        due("reckon act 5", x.reckon(5, 0, 0, 0), OUTSIDE);
        due("UNKNOWN ahead of act", x.reckon(5, 0, 0, 10), UNKNOWN);
        due("UNKNOWN ahead of ZERO", x.reckon(3, 0, 0, 10), UNKNOWN);
        counts(x, 0, 0, 0, 0, 0);
    }

    private static void compared(int laneX, long x, int laneY, long y, int want) {
        RopeDrums r = new RopeDrums();
        r.set(0, laneX, x);
        r.set(1, laneY, y);
        due("compare of " + x + ", " + y, r.compare(0, 1), want);
        due("compare of " + y + ", " + x, r.compare(1, 0), -want);
        due("compare of itself", r.compare(1, 1), 0);
    }

    private static void compare() {
        part = "promise 7";
        compared(INTS, Integer.MIN_VALUE, INTS, Integer.MAX_VALUE, -1);
        compared(LONGS, Long.MAX_VALUE, INTS, -1, 1);
        compared(LONGS, Long.MAX_VALUE, LONGS, Long.MAX_VALUE - 1, 1);
        compared(LONGS, 16777217, FLOATS, bits(16777216.0f), 0);
        compared(LONGS, 16777217, DOUBLES, bits(16777216.0), 1);
        compared(FLOATS, bits(0.1f), DOUBLES, bits(0.1), 1);
        compared(DOUBLES, bits(0.0), DOUBLES, bits(-0.0), 0);
        compared(FLOATS, bits(-0.0f), INTS, 0, 0);
        compared(DOUBLES, bits(-ENDLESS), LONGS, Long.MIN_VALUE, -1);
        compared(DOUBLES, bits(ENDLESS), FLOATS, bits(Float.POSITIVE_INFINITY), 0);
        RopeDrums x = new RopeDrums();
        for (int m : WRONG) {
            due("compare(" + m + ", 0)", x.compare(m, 0), UNKNOWN);
            due("compare(0, " + m + ")", x.compare(0, m), UNKNOWN);
        }
        due("compare(0, 10)", x.compare(0, 10), UNKNOWN);
    }

    private static void drum() {
        part = "promise 8";
        RopeDrums x = new RopeDrums();
        x.set(0, DOUBLES, bits(2.5));
        x.wind(5, 0);
        due("told(5, 3)", x.told(5, 3), 2);
        due("drum least", x.drum(5, bits(0.125)), 1);
        due("told(5, 0)", x.told(5, 0), bits(0.125));
        for (int what = 1; what <= 3; what++) due("told(5, " + what + ")", x.told(5, what), 0);
        due("drum most", x.drum(5, bits(1000000.0)), 1);
        x.wind(5, 0);
        double[] outside = {Math.nextDown(0.125), Math.nextUp(1000000.0), 0.0, -0.0, -1.0, ENDLESS, -ENDLESS, Double.NaN};
        for (double d : outside) due("drum " + d, x.drum(5, bits(d)), OUTSIDE);
        due("drum -NaN", x.drum(5, -1L), OUTSIDE);
        due("told(5, 0)", x.told(5, 0), bits(1000000.0));
        due("told(5, 1)", x.told(5, 1), bits(2.5));
        for (int d : WRONG) due("drum(" + d + ")", x.drum(d, bits(1.0)), UNKNOWN);
        due("drum(6)", x.drum(6, bits(1.0)), UNKNOWN);
        due("drum(6), no number", x.drum(6, -1L), UNKNOWN);
    }

    private static void wound(RopeDrums x, double at, double rope, long turns) {
        due("AT", x.told(2, 1), bits(at));
        due("ROPE", x.told(2, 2), bits(rope));
        due("TURNS", x.told(2, 3), turns);
    }

    private static void wind() {
        part = "promise 9";
        RopeDrums x = new RopeDrums();
        x.drum(2, bits(2.0));
        x.set(0, INTS, 5);
        due("wind 5", x.wind(2, 0), 1);
        wound(x, 1.0, 5.0, 2);
        x.set(0, FLOATS, bits(-4.5f));
        due("wind -4.5", x.wind(2, 0), 1);
        wound(x, -1.5, 0.5, 1);
        x.set(0, DOUBLES, bits(-0.5));
        due("wind -0.5", x.wind(2, 0), 1);
        wound(x, -0.0, 0.0, 0);
        x.set(0, DOUBLES, bits(1e300));
        due("wind 1e300", x.wind(2, 0), 1);
        wound(x, 1e300 % 2.0, 1e300, Long.MAX_VALUE);
        x.set(0, LONGS, 2);
        due("wind 2", x.wind(2, 0), 1);
        wound(x, 0.0, 1e300, Long.MIN_VALUE);
        x.set(0, DOUBLES, bits(ENDLESS));
        due("wind endless", x.wind(2, 0), VOID);
        x.set(0, FLOATS, bits(Float.NEGATIVE_INFINITY));
        due("wind endless", x.wind(2, 0), VOID);
        due("failed()", x.failed(), 5);
        wound(x, 0.0, 1e300, Long.MIN_VALUE);
        ropeOverflows();
        for (int w : WRONG) {
            due("wind(" + w + ", 1)", x.wind(w, 1), UNKNOWN);
            due("wind(1, " + w + ")", x.wind(1, w), UNKNOWN);
        }
        due("wind(6, 0)", x.wind(6, 0), UNKNOWN);
        due("wind(0, 10)", x.wind(0, 10), UNKNOWN);
        counts(x, 0, 0, 0, 0, 2);
    }

    private static void ropeOverflows() {
        RopeDrums x = new RopeDrums();
        x.drum(2, bits(0.125));
        x.set(0, DOUBLES, bits(Double.MAX_VALUE));
        x.wind(2, 0);
        x.wind(2, 0);
        wound(x, 0.0, ENDLESS, -2);
        x.set(0, DOUBLES, bits(-Double.MAX_VALUE));
        due("wind back", x.wind(2, 0), 1);
        wound(x, -0.0, ENDLESS, Long.MAX_VALUE - 1);
    }

    private static void told() {
        part = "promise 10";
        RopeDrums x = new RopeDrums();
        x.drum(0, bits(0.3));
        x.set(0, INTS, 1);
        x.wind(0, 0);
        due("told(0, 0)", x.told(0, 0), bits(0.3));
        due("told(0, 1)", x.told(0, 1), bits(1.0 % 0.3));
        due("told(0, 2)", x.told(0, 2), bits(1.0));
        due("told(0, 3)", x.told(0, 3), 3);
        for (int w : WRONG) {
            due("told(" + w + ", 0)", x.told(w, 0), UNKNOWN);
            due("told(0, " + w + ")", x.told(0, w), OUTSIDE);
        }
        due("told(0, 4)", x.told(0, 4), OUTSIDE);
        due("told(6, 4)", x.told(6, 4), UNKNOWN);
    }

    private static void log() {
        part = "promise 11";
        RopeDrums x = new RopeDrums();
        x.set(1, INTS, 9);
        for (int l = 0; l < 8; l++) {
            due("log(" + l + ", 16)", x.log(l, 16), 1);
            for (int i = 0; i < 16; i++) x.write(l, i, 1);
            due("log(" + l + ", 16)", x.log(l, 16), 1);
            for (int i = 0; i < 16; i++) due("whole(" + l + ", " + i + ")", x.whole(l, i), 0);
            due("write(" + l + ", 16, 1)", x.write(l, 16, 1), PLACE);
        }
        due("log(7, 0)", x.log(7, 0), 1);
        due("write(7, 0, 1)", x.write(7, 0, 1), PLACE);
        due("log(7, NONE)", x.log(7, -1), 1);
        due("write(7, 0, 1)", x.write(7, 0, 1), MISSING);
        x.log(0, 2);
        due("log(0, 17)", x.log(0, 17), OUTSIDE);
        due("log(0, -2)", x.log(0, -2), OUTSIDE);
        due("write(0, 1, 1)", x.write(0, 1, 1), 1);
        due("log(8, 17)", x.log(8, 17), UNKNOWN);
        for (int w : WRONG) due("log(" + w + ", 1)", x.log(w, 1), UNKNOWN);
    }

    private static void write() {
        part = "promise 12";
        RopeDrums x = new RopeDrums();
        x.log(3, 2);
        x.log(4, 2);
        x.set(0, DOUBLES, bits(0.1));
        due("write(3, 1, 0)", x.write(3, 1, 0), 1);
        due("write(4, 1, 0)", x.write(4, 1, 0), 1);
        holds(x, 0, DOUBLES, bits(0.1));
        x.read(3, 1, 1);
        holds(x, 1, FLOATS, bits(0.1f));
        x.read(4, 1, 1);
        holds(x, 1, DOUBLES, bits(0.1));
        x.set(0, LONGS, 0x4000004000000001L);
        x.write(3, 0, 0);
        x.read(3, 0, 1);
        holds(x, 1, FLOATS, bits(4.6116865E18f));
        due("write(3, 2, 0)", x.write(3, 2, 0), PLACE);
        due("write(3, -1, 0)", x.write(3, -1, 0), PLACE);
        due("write(5, -1, 0)", x.write(5, -1, 0), MISSING);
        due("write(5, 0, 10)", x.write(5, 0, 10), UNKNOWN);
        for (int w : WRONG) {
            due("write(" + w + ", 0, 0)", x.write(w, 0, 0), UNKNOWN);
            due("write(3, 0, " + w + ")", x.write(3, 0, w), UNKNOWN);
        }
        due("write(8, 0, 0)", x.write(8, 0, 0), UNKNOWN);
        counts(x, 1, 2, 0, 0, 0);
    }

    private static void read() {
        part = "promise 13";
        RopeDrums x = new RopeDrums();
        x.log(0, 1);
        x.log(7, 1);
        due("read(0, 0, 9)", x.read(0, 0, 9), FLOATS);
        holds(x, 9, FLOATS, 0);
        due("read(7, 0, 9)", x.read(7, 0, 9), DOUBLES);
        holds(x, 9, DOUBLES, 0);
        due("read(7, 1, 8)", x.read(7, 1, 8), PLACE);
        due("read(7, least, 8)", x.read(7, Integer.MIN_VALUE, 8), PLACE);
        due("read(6, 1, 8)", x.read(6, 1, 8), MISSING);
        holds(x, 8, INTS, 0);
        for (int w : WRONG) {
            due("read(" + w + ", 0, 0)", x.read(w, 0, 0), UNKNOWN);
            due("read(6, 0, " + w + ")", x.read(6, 0, w), UNKNOWN);
        }
        due("read(8, 0, 0)", x.read(8, 0, 0), UNKNOWN);
        due("read(6, 0, 10)", x.read(6, 0, 10), UNKNOWN);
        counts(x, 1, 2, 0, 0, 0);
    }

    private static void mark(RopeDrums x, int log, int i, double v) {
        x.set(9, DOUBLES, bits(v));
        x.write(log, i, 9);
    }

    private static void marked(RopeDrums x, int log, int i, double v) {
        x.read(log, i, 9);
        due("place " + i + " of log " + log, x.bits(9), log < 4 ? bits((float) v) : bits(v));
    }

    private static void rest() {
        part = "promise 14";
        for (int log = 0; log < 8; log += 7) {
            RopeDrums x = new RopeDrums();
            x.log(log, 4);
            mark(x, log, 0, -1.0);
            mark(x, log, 1, 0.3);
            due("rest", x.rest(log, 0, 1), 1);
            marked(x, log, 0, log < 4 ? -1.0f % 0.3f : -1.0 % 0.3);
            marked(x, log, 1, log < 4 ? 0.3f : 0.3);
            mark(x, log, 2, -ENDLESS);
            due("rest by endless", x.rest(log, 1, 2), 1);
            marked(x, log, 1, 0.3);
            due("rest of endless", x.rest(log, 2, 1), VOID);
            due("rest by 0.0", x.rest(log, 1, 3), VOID);
            marked(x, log, 2, -ENDLESS);
            due("rest by itself", x.rest(log, 1, 1), 1);
            marked(x, log, 1, 0.0);
            due("rest(4, 0)", x.rest(log, 4, 0), PLACE);
            due("rest(0, 4)", x.rest(log, 0, 4), PLACE);
            due("rest(0, -1)", x.rest(log, 0, -1), PLACE);
            due("PLACE ahead of VOID", x.rest(log, 2, 4), PLACE);
            due("MISSING ahead of PLACE", x.rest(1, 4, 4), MISSING);
            for (int w : WRONG) due("rest of log " + w, x.rest(w, 0, 0), UNKNOWN);
            due("rest of log 8", x.rest(8, 0, 0), UNKNOWN);
            counts(x, 1, 4, 0, 0, 2);
        }
    }

    private static void copy() {
        part = "promise 15";
        RopeDrums x = new RopeDrums();
        x.log(5, 3);
        x.log(2, 4);
        mark(x, 5, 0, 0.1);
        mark(x, 5, 1, -1e300);
        mark(x, 5, 2, -1e-300);
        mark(x, 2, 3, 4.5);
        due("copy", x.copy(5, 2, false), 3);
        due("failed()", x.failed(), 0);
        marked(x, 2, 0, 0.1f);
        marked(x, 2, 1, -ENDLESS);
        marked(x, 2, 2, -0.0);
        marked(x, 2, 3, 4.5);
        x.failed();
        due("copy back, too many", x.copy(5, 2, true), 3);
        due("failed()", x.failed(), 2);
        marked(x, 5, 0, (double) 0.1f);
        marked(x, 5, 1, -ENDLESS);
        marked(x, 5, 2, -0.0);
        counts(x, 0, 1, 0, 0, 0);
        x.log(2, 0);
        due("copy to no places", x.copy(5, 2, false), 0);
        due("failed()", x.failed(), 2);
        due("copy from no places", x.copy(5, 2, true), 0);
        due("failed()", x.failed(), 0);
        counts(x, 0, 2, 0, 0, 0);
    }

    private static void copyFailures() {
        part = "promise 15, failures";
        RopeDrums x = new RopeDrums();
        due("both missing", x.copy(4, 0, false), MISSING);
        x.log(4, 0);
        due("nothing to copy", x.copy(4, 0, false), 0);
        due("failed()", x.failed(), 0);
        due("from missing", x.copy(4, 0, true), MISSING);
        x.log(4, 1);
        due("to missing", x.copy(4, 0, false), MISSING);
        due("failed()", x.failed(), 1);
        counts(x, 3, 0, 0, 0, 0);
        for (int w : WRONG) {
            due("copy(" + w + ", 0)", x.copy(w, 0, false), UNKNOWN);
            due("copy(4, " + w + ")", x.copy(4, w, true), UNKNOWN);
        }
        due("copy(3, 0)", x.copy(3, 0, false), UNKNOWN);
        due("copy(8, 0)", x.copy(8, 0, false), UNKNOWN);
        due("copy(4, 4)", x.copy(4, 4, false), UNKNOWN);
        due("copy(0, 4)", x.copy(0, 4, true), UNKNOWN);
        due("failed()", x.failed(), 1);
    }

    private static void whole() {
        part = "promise 16";
        RopeDrums x = new RopeDrums();
        x.log(0, 1);
        x.log(4, 1);
        mark(x, 0, 0, -2.75);
        mark(x, 4, 0, 1e300);
        due("whole(0, 0)", x.whole(0, 0), -2);
        due("whole(4, 0)", x.whole(4, 0), Long.MAX_VALUE);
        mark(x, 4, 0, -ENDLESS);
        due("whole(4, 0)", x.whole(4, 0), Long.MIN_VALUE);
        due("failed()", x.failed(), 0);
        due("whole(4, 1)", x.whole(4, 1), 0);
        due("failed()", x.failed(), 2);
        due("whole(5, -1)", x.whole(5, -1), 0);
        due("failed()", x.failed(), 1);
        due("whole(4, -1)", x.whole(4, -1), 0);
        due("failed()", x.failed(), 2);
        for (int w : WRONG) due("whole(" + w + ", 0)", x.whole(w, 0), 0);
        due("whole(8, 0)", x.whole(8, 0), 0);
        due("failed() after a refusal", x.failed(), 2);
        counts(x, 1, 2, 0, 0, 0);
        x.whole(0, 0);
        due("failed()", x.failed(), 0);
    }

    private static void spool() {
        part = "promise 17";
        RopeDrums x = new RopeDrums();
        due("spool(-1)", x.spool(-1, true), OUTSIDE);
        due("spool(100001)", x.spool(100001, false), OUTSIDE);
        for (int s = 0; s < 30; s++) due("spool " + s, x.spool(s % 2 == 0 ? 0 : 100000, s % 3 == 0), s);
        due("spool 30", x.spool(1, true), FULL);
        due("OUTSIDE ahead of FULL", x.spool(-1, true), OUTSIDE);
        due("OUTSIDE ahead of FULL", x.spool(Integer.MAX_VALUE, true), OUTSIDE);
        due("count(0)", x.count(0), 30);
        due("failed()", x.failed(), 0);
    }

    private static void rack() {
        part = "promise 18";
        RopeDrums x = new RopeDrums();
        x.spool(5, false);
        for (int r = 0; r < 5; r++) {
            due("rack(" + r + ", 12)", x.rack(r, false, 12), 1);
            for (int i = 0; i < 12; i++) due("put", x.put(r, i, 0), 1);
            due("put(12)", x.put(r, 12, 0), PLACE);
            due("rack(" + r + ", 12)", x.rack(r, true, 12), 1);
            for (int i = 0; i < 12; i++) due("at", x.at(r, i), -1);
            due("put", x.put(r, 0, 0), MISFIT);
        }
        due("rack(4, 0)", x.rack(4, true, 0), 1);
        due("at(4, 0)", x.at(4, 0), PLACE);
        due("rack(4, NONE)", x.rack(4, true, -1), 1);
        due("at(4, 0)", x.at(4, 0), MISSING);
        due("rack(3, 13)", x.rack(3, false, 13), OUTSIDE);
        due("rack(3, -2)", x.rack(3, false, -2), OUTSIDE);
        due("put", x.put(3, 11, 0), MISFIT);
        due("rack(5, 13)", x.rack(5, false, 13), UNKNOWN);
        for (int w : WRONG) due("rack(" + w + ", 1)", x.rack(w, true, 1), UNKNOWN);
    }

    private static void put() {
        part = "promise 19";
        RopeDrums x = new RopeDrums();
        x.spool(5, false);
        x.spool(6, true);
        x.rack(0, false, 2);
        x.rack(1, true, 2);
        due("put(0, 0, 0)", x.put(0, 0, 0), 1);
        due("put(0, 1, 1)", x.put(0, 1, 1), 1);
        due("put(1, 0, 1)", x.put(1, 0, 1), 1);
        due("put(1, 0, 0)", x.put(1, 0, 0), MISFIT);
        due("at(1, 0)", x.at(1, 0), 1);
        due("PLACE ahead of MISFIT", x.put(1, 2, 0), PLACE);
        due("put(1, -1, 1)", x.put(1, -1, 1), PLACE);
        due("MISSING ahead of PLACE", x.put(2, -1, 0), MISSING);
        due("put nothing", x.put(1, 0, -1), 1);
        due("at(1, 0)", x.at(1, 0), -1);
        due("put nothing, no place", x.put(1, 2, -1), PLACE);
        due("put(2, 0, 2)", x.put(2, 0, 2), UNKNOWN);
        due("put(0, 0, -2)", x.put(0, 0, -2), UNKNOWN);
        due("put(0, 0, least)", x.put(0, 0, Integer.MIN_VALUE), UNKNOWN);
        for (int w : WRONG) due("put(" + w + ", 0, 0)", x.put(w, 0, 0), UNKNOWN);
        due("put(5, 0, 0)", x.put(5, 0, 0), UNKNOWN);
        due("at(0, 0)", x.at(0, 0), 0);
        counts(x, 1, 3, 1, 0, 0);
    }

    private static void at() {
        part = "promise 20";
        RopeDrums x = new RopeDrums();
        x.spool(5, false);
        x.spool(5, false);
        x.rack(3, false, 3);
        x.put(3, 2, 1);
        due("at(3, 2)", x.at(3, 2), 1);
        due("at(3, 0)", x.at(3, 0), -1);
        due("failed()", x.failed(), 0);
        due("at(3, 3)", x.at(3, 3), PLACE);
        due("at(3, -1)", x.at(3, -1), PLACE);
        due("at(2, -1)", x.at(2, -1), MISSING);
        for (int w : WRONG) due("at(" + w + ", 0)", x.at(w, 0), UNKNOWN);
        due("at(5, 0)", x.at(5, 0), UNKNOWN);
        due("failed()", x.failed(), 1);
        counts(x, 1, 2, 0, 0, 0);
    }

    private static void weight() {
        part = "promise 21";
        RopeDrums x = new RopeDrums();
        x.spool(100000, true);
        x.spool(7, false);
        x.rack(0, false, 3);
        x.rack(1, true, 1);
        x.put(0, 0, 0);
        x.put(0, 1, 1);
        x.put(1, 0, 0);
        due("weight(0, 0, false)", x.weight(0, 0, false), 100000);
        due("weight(0, 0, true)", x.weight(0, 0, true), 200001);
        due("weight(1, 0, true)", x.weight(1, 0, true), 200001);
        due("weight(0, 1, false)", x.weight(0, 1, false), 7);
        due("failed()", x.failed(), 0);
        due("weight(0, 1, true)", x.weight(0, 1, true), MISFIT);
        due("weight(0, 2, true)", x.weight(0, 2, true), MISSING);
        due("weight(0, 2, false)", x.weight(0, 2, false), MISSING);
        due("weight(0, 3, true)", x.weight(0, 3, true), PLACE);
        due("weight(0, -1, false)", x.weight(0, -1, false), PLACE);
        due("weight(2, -1, false)", x.weight(2, -1, false), MISSING);
        for (int w : WRONG) due("weight(" + w + ", 0)", x.weight(w, 0, true), UNKNOWN);
        due("weight(5, 0)", x.weight(5, 0, false), UNKNOWN);
        counts(x, 3, 2, 1, 0, 0);
    }

    private static void brake() {
        part = "promise 22";
        RopeDrums x = new RopeDrums();
        due("brake(3, 0)", x.brake(3, 0, bits(-2.0)), 1);
        due("brake(3, 3)", x.brake(3, 3, bits(1.0)), OUTSIDE);
        due("brake(3, -1)", x.brake(3, -1, bits(1.0)), OUTSIDE);
        due("brake no number", x.brake(3, 0, bits(Double.NaN)), OUTSIDE);
        due("brake no number", x.brake(3, 1, -1L), OUTSIDE);
        x.set(0, INTS, 5);
        due("slow(3, 0)", x.slow(3, 0), 1);
        holds(x, 0, DOUBLES, bits(1.0));
        due("brake(3, 2), no number", x.brake(3, 2, -1L), 1);
        due("slow(3, 0)", x.slow(3, 0), MISSING);
        due("brake(3, 1)", x.brake(3, 1, bits(ENDLESS)), 1);
        due("slow(3, 0)", x.slow(3, 0), 1);
        holds(x, 0, DOUBLES, bits(0.0));
        for (int w : WRONG) due("brake(" + w + ")", x.brake(w, 0, bits(1.0)), UNKNOWN);
        due("brake(4, 3)", x.brake(4, 3, -1L), UNKNOWN);
    }

    private static void slowed(int sort, double grip, double v, double want) {
        RopeDrums x = new RopeDrums();
        x.brake(1, sort, bits(grip));
        x.set(6, DOUBLES, bits(v));
        due("slow of " + v + " by " + grip, x.slow(1, 6), 1);
        holds(x, 6, DOUBLES, bits(want));
    }

    private static void slowFails(int sort, double grip, double v) {
        RopeDrums x = new RopeDrums();
        x.brake(1, sort, bits(grip));
        x.set(6, DOUBLES, bits(v));
        due("slow of " + v + " by " + grip, x.slow(1, 6), VOID);
        holds(x, 6, DOUBLES, bits(v));
        due("failed()", x.failed(), 5);
    }

    private static void slow() {
        part = "promise 23";
        slowed(0, 0.1, 1.0, 1.0 % 0.1);
        slowed(0, -2.0, -4.0, -0.0);
        slowed(0, -ENDLESS, 3.5, 3.5);
        slowed(0, 1e-310, 1e308, 1e308 % 1e-310);
        slowed(1, 3.0, 1.0, (float) (1.0 / 3.0));
        slowed(1, 0.0, -1.0, -ENDLESS);
        slowed(1, 1e-30, 1e30, ENDLESS);
        slowed(1, -1e30, 1e-30, -0.0);
        slowed(1, 2.0, ENDLESS, ENDLESS);
        slowFails(0, 0.0, 1.0);
        slowFails(0, -0.0, 1.0);
        slowFails(0, 2.0, ENDLESS);
        slowFails(0, ENDLESS, ENDLESS);
        slowFails(1, 0.0, -0.0);
        slowFails(1, -ENDLESS, ENDLESS);
        RopeDrums x = new RopeDrums();
        x.brake(0, 1, bits(1.0));
        x.set(0, LONGS, 16777217);
        due("slow of a long", x.slow(0, 0), 1);
        holds(x, 0, DOUBLES, bits(16777216.0));
        for (int w : WRONG) {
            due("slow(" + w + ", 0)", x.slow(w, 0), UNKNOWN);
            due("slow(1, " + w + ")", x.slow(1, w), UNKNOWN);
        }
        due("slow(4, 0)", x.slow(4, 0), UNKNOWN);
        due("slow(1, 10)", x.slow(1, 10), UNKNOWN);
        due("slow(1, 0)", x.slow(1, 0), MISSING);
        holds(x, 0, DOUBLES, bits(16777216.0));
    }

    private static void failed() {
        part = "promise 24";
        RopeDrums x = new RopeDrums();
        due("reckon(3, 0, 0, 0)", x.reckon(3, 0, 0, 0), ZERO);
        x.set(1, INTS, 1);
        x.turn(1, 0);
        x.bits(1);
        x.lane(1);
        x.compare(0, 1);
        x.drum(0, bits(1.0));
        x.told(0, 0);
        x.log(0, 1);
        x.spool(1, false);
        x.rack(0, true, 1);
        x.brake(0, 0, bits(0.0));
        x.count(4);
        x.reckon(9, 0, 0, 0);
        x.reckon(0, 0, 0, 10);
        x.wind(6, 0);
        x.write(8, 0, 0);
        due("failed() after calls that can't fail, or were refused", x.failed(), 4);
        due("failed() again", x.failed(), 4);
        x.wind(0, 1);
        due("failed() after wind", x.failed(), 0);
        due("put", x.put(0, 0, 0), MISFIT);
        due("failed() after put", x.failed(), 3);
        x.write(0, 0, 1);
        due("failed() after write", x.failed(), 0);
        x.slow(0, 1);
        due("failed() after slow", x.failed(), 5);
        x.read(0, 0, 2);
        due("failed() after read", x.failed(), 0);
        x.weight(0, 0, true);
        due("failed() after weight", x.failed(), 1);
        x.at(0, 0);
        due("failed() after at", x.failed(), 0);
        x.whole(0, 9);
        due("failed() after whole", x.failed(), 2);
        x.rest(0, 0, 0);
        due("failed() after rest", x.failed(), 0);
        x.copy(4, 0, false);
        due("failed() after copy", x.failed(), 1);
        x.reckon(0, 1, 1, 1);
        due("failed() after reckon", x.failed(), 0);
        passesAfterFailures();
    }

    private static void passesAfterFailures() {
        RopeDrums x = new RopeDrums();
        x.spool(1, true);
        x.rack(0, true, 1);
        x.at(0, 1);
        x.put(0, 0, 0);
        due("failed() after put", x.failed(), 0);
        x.at(0, 1);
        x.weight(0, 0, true);
        due("failed() after weight", x.failed(), 0);
        x.brake(0, 0, bits(1.0));
        x.at(0, 1);
        x.slow(0, 0);
        due("failed() after slow", x.failed(), 0);
        x.log(4, 1);
        x.log(0, 1);
        x.at(0, 1);
        x.copy(4, 0, false);
        due("failed() after copy", x.failed(), 0);
    }

    private static void count() {
        part = "promise 25";
        RopeDrums x = new RopeDrums();
        for (int n = 1; n <= 3; n++) {
            x.spool(1, false);
            due("count(0)", x.count(0), n);
        }
        x.reckon(3, 0, 0, 0);
        x.reckon(4, 0, 0, 0);
        x.read(0, 0, 0);
        x.rack(0, true, 1);
        x.put(0, 0, 2);
        x.at(0, 1);
        x.at(0, 2);
        x.at(0, 3);
        x.log(4, 2);
        x.log(0, 1);
        due("copy", x.copy(4, 0, false), 1);
        x.rest(0, 0, 0);
        counts(x, 1, 4, 1, 2, 1);
        for (int w : WRONG) due("count(" + w + ")", x.count(w), OUTSIDE);
        due("count(6)", x.count(6), OUTSIDE);
    }

    /** An object answers all of its 512 calls, and throws in none after them. */
    private static void manyCalls() {
        part = "512 calls";
        RopeDrums x = new RopeDrums();
        for (int n = 1; n <= 511; n++) x.read(n % 8, n, 0);
        due("count(1)", x.count(1), 511);
        for (int n = 0; n < 100000; n++) x.wind(n % 7, n % 11);
    }
}
