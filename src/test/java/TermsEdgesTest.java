/** The document's "Terms": for each of its sentences that names a boundary case, a test of its own. */
public final class TermsEdgesTest {
    private static final double GREATEST_FLOAT = 3.4028234663852886E38;
    private static final double HALF_A_STEP_ABOVE = 3.4028235677973366E38;

    public static void main(String[] args) {
        Due.test("LANES: 0 ints, 1 longs, 2 floats, 3 doubles", TermsEdgesTest::lanes);
        Due.test("BITS of ints the number itself (given: its lowest 32 bits)", TermsEdgesTest::bitsOfInts);
        Due.test("BITS of longs the number itself", TermsEdgesTest::bitsOfLongs);
        Due.test("BITS of floats their bits (as an int)", TermsEdgesTest::bitsOfFloats);
        Due.test("BITS of doubles theirs", TermsEdgesTest::bitsOfDoubles);
        Due.test("NO NUMBER is never taken (OUTSIDE)", TermsEdgesTest::noNumberIsTaken);
        Due.test("NO NUMBER is never made: the call fails by VOID", TermsEdgesTest::noNumberIsMade);
        Due.test("ints into floats, doubles: the nearest", TermsEdgesTest::intsIntoReals);
        Due.test("longs into floats: the nearest", TermsEdgesTest::longsIntoFloats);
        Due.test("longs into doubles: the nearest", TermsEdgesTest::longsIntoDoubles);
        Due.test("doubles into floats: the nearest", TermsEdgesTest::doublesIntoFloats);
        Due.test("of two as near the one whose last bit is 0", TermsEdgesTest::asNear);
        Due.test("a double beyond all floats: endless", TermsEdgesTest::beyondAllFloats);
        Due.test("Longs into ints: the lowest 32 bits", TermsEdgesTest::longsIntoInts);
        Due.test("Floats, doubles into ints, longs: what stands ahead of the point", TermsEdgesTest::aheadOfThePoint);
        Due.test("that end of the ints beyond which it lies", TermsEdgesTest::endOfInts);
        Due.test("that end of the longs beyond which it lies", TermsEdgesTest::endOfLongs);
        Due.test("that end, if it is endless, too", TermsEdgesTest::endless);
        Due.test("All else: the same number", TermsEdgesTest::allElse);
        Due.test("OF TWO: the LANE that has the greater number", TermsEdgesTest::greaterLane);
        Due.test("OF TWO: both are TURNED into the LANE", TermsEdgesTest::bothAreTurned);
        Due.test("OF TWO: rounded to it, as usual", TermsEdgesTest::rounded);
        Due.test("ints wrap", TermsEdgesTest::intsWrap);
        Due.test("longs wrap", TermsEdgesTest::longsWrap);
        Due.test("FAILURES -11 .. -15: answered, counted, nothing else changes", TermsEdgesTest::failures);
        Due.test("REFUSALS are not counted", TermsEdgesTest::refusals);
        Due.test("REFUSALS come ahead of FAILURES", TermsEdgesTest::refusalsAhead);
        Due.test("of several the first that the call tells", TermsEdgesTest::severalRefusals);
        Due.test("METERS 0 .. 9, at first the int 0", TermsEdgesTest::meters);
        Due.test("DRUMS 0 .. 5: 1.0, 0.0, 0.0, 0 at first", TermsEdgesTest::drums);
        Due.test("LOGS 0 .. 3 are of floats, 4 .. 7 of doubles", TermsEdgesTest::logs);
        Due.test("LOGS are MISSING (at first)", TermsEdgesTest::logsAtFirst);
        Due.test("SPOOLS are numbered from 0 on as they come, 30 at most", TermsEdgesTest::spools);
        Due.test("RACKS 0 .. 4, MISSING (at first)", TermsEdgesTest::racks);
        Due.test("BRAKES 0 .. 3, MISSING (at first)", TermsEdgesTest::brakes);
        Due.end();
    }

    private static void lanes() {
        RopeDrums x = new RopeDrums();
        for (int lane = 0; lane <= 3; lane++) {
            Due.is("set(0, " + lane + ", 0)", x.set(0, lane, 0), 1);
            Due.is("lane(0)", x.lane(0), lane);
            Due.is("turn(1, " + lane + ")", x.turn(1, lane), 1);
            Due.is("lane(1)", x.lane(1), lane);
        }
        for (int lane : Due.notUpTo(3)) {
            Due.refuses("set(0, " + lane + ", 0)", y -> y.set(0, lane, 0), Due.OUTSIDE);
            Due.refuses("turn(0, " + lane + ")", y -> y.turn(0, lane), Due.OUTSIDE);
        }
    }

    private static void taken(int lane, long given, long told) {
        RopeDrums x = new RopeDrums();
        Due.is("set(0, " + lane + ", " + given + ")", x.set(0, lane, given), 1);
        Due.holds(x, 0, lane, told);
    }

    private static void bitsOfInts() {
        taken(Due.INTS, Due.MOST, Due.MOST);
        taken(Due.INTS, Due.LEAST, Due.LEAST);
        taken(Due.INTS, -1, -1);
        taken(Due.INTS, 2147483648L, Due.LEAST);
        taken(Due.INTS, -2147483649L, Due.MOST);
        taken(Due.INTS, 4294967295L, -1);
        taken(Due.INTS, 4294967296L, 0);
        taken(Due.INTS, Long.MAX_VALUE, -1);
        taken(Due.INTS, Long.MIN_VALUE, 0);
    }

    private static void bitsOfLongs() {
        for (long n : new long[] {0, -1, Long.MAX_VALUE, Long.MIN_VALUE, 4294967296L}) taken(Due.LONGS, n, n);
    }

    private static void bitsOfFloats() {
        long[] kept = {0, 1, 0x7fffff, 0x800000, 0x3f800000, 0x3fffffff, 0x7f7fffff, 0x7f800000};
        for (long bits : kept) {
            taken(Due.FLOATS, bits, bits);
            taken(Due.FLOATS, (int) (bits | 0x80000000L), bits - 2147483648L);
        }
        // Given with no sign above the lowest 32 bits they are told with it, as an int.
        taken(Due.FLOATS, 0xbf800000L, -1082130432L);
        taken(Due.FLOATS, 0x80000000L, Due.LEAST);
        for (long power = 0; power < 255; power++) {
            for (long digits : new long[] {0, 1, 0x400000, 0x7fffff}) {
                taken(Due.FLOATS, (power << 23) + digits, (power << 23) + digits);
            }
        }
    }

    private static void bitsOfDoubles() {
        long[] kept = {0, 1, 0xfffffffffffffL, 0x10000000000000L, 0x3ff0000000000000L, 0x3fffffffffffffffL,
            0x7fefffffffffffffL, 0x7ff0000000000000L};
        for (long bits : kept) {
            taken(Due.DOUBLES, bits, bits);
            taken(Due.DOUBLES, bits | Long.MIN_VALUE, bits | Long.MIN_VALUE);
        }
        for (long power = 0; power < 2047; power++) {
            for (long digits : new long[] {0, 1, 0x8000000000000L, 0xfffffffffffffL}) {
                taken(Due.DOUBLES, (power << 52) + digits, (power << 52) + digits);
            }
        }
    }

    private static void noNumberIsTaken() {
        long[] noFloats = {0x7f800001L, 0x7fc00000L, 0x7fffffffL, -8388607L, -1L, 0xff800001L, 0xffffffffL};
        for (long bits : noFloats) Due.refuses("set float " + bits, x -> x.set(0, 2, bits), Due.OUTSIDE);
        long[] noDoubles = {0x7ff0000000000001L, 0x7ff8000000000000L, Long.MAX_VALUE, 0xfff0000000000001L, -1L};
        for (long bits : noDoubles) {
            Due.refuses("set double " + bits, x -> x.set(0, 3, bits), Due.OUTSIDE);
            Due.refuses("drum " + bits, x -> x.drum(0, bits), Due.OUTSIDE);
            Due.refuses("brake " + bits, x -> x.brake(0, 0, bits), Due.OUTSIDE);
        }
        taken(Due.INTS, Due.NO_FLOAT, Due.NO_FLOAT);
        taken(Due.LONGS, Due.NO_DOUBLE, Due.NO_DOUBLE);
    }

    private static void noNumberIsMade() {
        Due.fails("endless less endless", x -> x.reckon(1, 4, 4, 0), Due.VOID);
        Due.fails("endless and endless below", x -> x.reckon(0, 4, 9, 4), Due.VOID);
        Due.fails("endless by 0.0 times", x -> x.reckon(2, 4, 8, 8), Due.VOID);
        Due.fails("0.0 by 0.0", x -> x.reckon(3, 8, 8, 0), Due.VOID);
        Due.fails("what is left by 0.0", x -> x.reckon(4, 2, 5, 0), Due.VOID);
        Due.fails("rest by 0.0", x -> x.rest(0, 0, 1), Due.VOID);
        Due.fails("rest of endless", x -> x.rest(4, 2, 0), Due.VOID);
        Due.fails("slow by 0.0", x -> x.slow(3, 0), Due.VOID);
        Due.fails("wind endless", x -> x.wind(0, 9), Due.VOID);
    }

    private static void turned(int lane, long given, int into, long told) {
        RopeDrums x = new RopeDrums();
        x.set(0, lane, given);
        Due.is("turn of lane " + lane + ", " + given, x.turn(0, into), 1);
        Due.holds(x, 0, into, told);
    }

    private static void intsIntoReals() {
        turned(0, 16777216, 2, Due.bits(16777216.0f));
        turned(0, 33554435, 2, Due.bits(33554436.0f));
        turned(0, 33554433, 2, Due.bits(33554432.0f));
        turned(0, Due.MOST, 2, Due.bits(2147483648.0f));
        turned(0, Due.LEAST, 2, Due.bits(-2147483648.0f));
        turned(0, Due.MOST, 3, Due.bits(2147483647.0));
        turned(0, Due.LEAST, 3, Due.bits(-2147483648.0));
        turned(0, 0, 2, 0);
        turned(0, 0, 3, 0);
    }

    private static void longsIntoFloats() {
        turned(1, Long.MAX_VALUE, 2, Due.bits(9.223372E18f));
        turned(1, Long.MIN_VALUE, 2, Due.bits(-9.223372E18f));
        turned(1, 16777219, 2, Due.bits(16777220.0f));
        // These lie just above and just below the middle of two floats: by way of doubles they'd be in the middle.
        turned(1, (1L << 62) + (1L << 38) + 1L, 2, 0x5e800001L);
        turned(1, (1L << 62) + (3L << 38) - 1L, 2, 0x5e800001L);
        turned(1, -(1L << 62) - (1L << 38) - 1L, 2, (int) 0xde800001L);
    }

    private static void longsIntoDoubles() {
        turned(1, Long.MAX_VALUE, 3, Due.bits(0x1p63));
        turned(1, Long.MIN_VALUE, 3, Due.bits(-0x1p63));
        turned(1, 9007199254740992L, 3, Due.bits(9007199254740992.0));
        turned(1, 18014398509481987L, 3, Due.bits(18014398509481988.0));
        turned(1, 18014398509481985L, 3, Due.bits(18014398509481984.0));
    }

    private static void doublesIntoFloats() {
        turned(3, Due.bits(0.1), 2, Due.bits(0.1f));
        turned(3, Due.bits(-0.1), 2, Due.bits(-0.1f));
        double middle = 1.0 + 0x1p-24;
        turned(3, Due.bits(Math.nextUp(middle)), 2, 0x3f800001L);
        turned(3, Due.bits(Math.nextDown(middle)), 2, 0x3f800000L);
        turned(3, Due.bits(Math.nextUp(0x1p-150)), 2, 1);
        turned(3, Due.bits(0x1p-150), 2, 0);
        turned(3, Due.bits(-0x1p-150), 2, Due.LEAST);
        turned(3, Due.bits(Double.MIN_VALUE), 2, 0);
        turned(3, Due.bits(-Double.MIN_VALUE), 2, Due.LEAST);
        turned(3, Due.bits(Math.nextDown(0x1p-126)), 2, 0x800000L);
    }

    private static void asNear() {
        turned(0, 16777217, 2, Due.bits(16777216.0f));
        turned(0, 16777219, 2, Due.bits(16777220.0f));
        turned(0, -16777219, 2, Due.bits(-16777220.0f));
        turned(1, (1L << 62) + (1L << 38), 2, 0x5e800000L);
        turned(1, (1L << 62) + (3L << 38), 2, 0x5e800002L);
        turned(1, 9007199254740993L, 3, Due.bits(9007199254740992.0));
        turned(1, 9007199254740995L, 3, Due.bits(9007199254740996.0));
        turned(1, -9007199254740995L, 3, Due.bits(-9007199254740996.0));
        turned(3, Due.bits(1.0 + 0x1p-24), 2, 0x3f800000L);
        turned(3, Due.bits(1.0 + 0x3p-24), 2, 0x3f800002L);
        turned(3, Due.bits(0x3p-150), 2, 2);
        turned(3, Due.bits(0x5p-150), 2, 2);
    }

    private static void beyondAllFloats() {
        long endless = 0x7f800000L;
        turned(3, Due.bits(GREATEST_FLOAT), 2, 0x7f7fffffL);
        // Nearer to the greatest float than to what would be the next: rounded, it is not beyond all floats.
        turned(3, Due.bits(Math.nextDown(HALF_A_STEP_ABOVE)), 2, 0x7f7fffffL);
        turned(3, Due.bits(-Math.nextDown(HALF_A_STEP_ABOVE)), 2, (int) 0xff7fffffL);
        turned(3, Due.bits(HALF_A_STEP_ABOVE), 2, endless);
        turned(3, Due.bits(-HALF_A_STEP_ABOVE), 2, (int) 0xff800000L);
        turned(3, Due.bits(1e39), 2, endless);
        turned(3, Due.bits(Double.MAX_VALUE), 2, endless);
        turned(3, Due.bits(-Double.MAX_VALUE), 2, (int) 0xff800000L);
        turned(3, Due.bits(Due.ENDLESS), 2, endless);
        turned(3, Due.bits(-Due.ENDLESS), 2, (int) 0xff800000L);
    }

    private static void longsIntoInts() {
        turned(1, 2147483647L, 0, Due.MOST);
        turned(1, 2147483648L, 0, Due.LEAST);
        turned(1, -2147483649L, 0, Due.MOST);
        turned(1, 4294967299L, 0, 3);
        turned(1, -4294967297L, 0, -1);
        turned(1, Long.MAX_VALUE, 0, -1);
        turned(1, Long.MIN_VALUE, 0, 0);
    }

    private static void aheadOfThePoint() {
        for (int into = 0; into <= 1; into++) {
            turned(2, Due.bits(1.9999999f), into, 1);
            turned(2, Due.bits(-1.9999999f), into, -1);
            turned(2, Due.bits(-0.0f), into, 0);
            turned(2, 1, into, 0);
            turned(3, Due.bits(0.9999999999999999), into, 0);
            turned(3, Due.bits(-0.9999999999999999), into, 0);
            turned(3, Due.bits(-0.0), into, 0);
            turned(3, Due.bits(-7.5), into, -7);
            turned(3, Due.bits(2147483646.9999998), into, 2147483646);
        }
        turned(3, Due.bits(4503599627370495.5), 1, 4503599627370495L);
    }

    private static void endOfInts() {
        turned(3, Due.bits(2147483647.0), 0, Due.MOST);
        turned(3, Due.bits(2147483647.9999998), 0, Due.MOST);
        turned(3, Due.bits(2147483648.0), 0, Due.MOST);
        turned(3, Due.bits(4294967297.0), 0, Due.MOST);
        turned(3, Due.bits(1e300), 0, Due.MOST);
        turned(3, Due.bits(-2147483648.0), 0, Due.LEAST);
        turned(3, Due.bits(-2147483649.0), 0, Due.LEAST);
        turned(3, Due.bits(-4294967297.0), 0, Due.LEAST);
        turned(2, Due.bits(2147483520.0f), 0, 2147483520);
        turned(2, Due.bits(2147483648.0f), 0, Due.MOST);
        turned(2, Due.bits(-2147483904.0f), 0, Due.LEAST);
        turned(2, Due.bits(Float.MAX_VALUE), 0, Due.MOST);
    }

    private static void endOfLongs() {
        turned(3, Due.bits(Math.nextDown(0x1p63)), 1, 9223372036854774784L);
        turned(3, Due.bits(0x1p63), 1, Long.MAX_VALUE);
        turned(3, Due.bits(-0x1p63), 1, Long.MIN_VALUE);
        turned(3, Due.bits(-1e19), 1, Long.MIN_VALUE);
        turned(3, Due.bits(Double.MAX_VALUE), 1, Long.MAX_VALUE);
        turned(2, Due.bits(Math.nextDown(0x1p63f)), 1, 9223371487098961920L);
        turned(2, Due.bits(0x1p63f), 1, Long.MAX_VALUE);
        turned(2, Due.bits(-1e19f), 1, Long.MIN_VALUE);
    }

    private static void endless() {
        turned(2, Due.bits(Due.ENDLESS_FLOAT), 0, Due.MOST);
        turned(2, Due.bits(-Due.ENDLESS_FLOAT), 0, Due.LEAST);
        turned(2, Due.bits(Due.ENDLESS_FLOAT), 1, Long.MAX_VALUE);
        turned(2, Due.bits(-Due.ENDLESS_FLOAT), 1, Long.MIN_VALUE);
        turned(3, Due.bits(Due.ENDLESS), 0, Due.MOST);
        turned(3, Due.bits(-Due.ENDLESS), 0, Due.LEAST);
        turned(3, Due.bits(Due.ENDLESS), 1, Long.MAX_VALUE);
        turned(3, Due.bits(-Due.ENDLESS), 1, Long.MIN_VALUE);
    }

    private static void allElse() {
        turned(0, Due.LEAST, 1, Due.LEAST);
        turned(0, Due.MOST, 1, Due.MOST);
        turned(0, Due.LEAST, 0, Due.LEAST);
        turned(1, Long.MIN_VALUE, 1, Long.MIN_VALUE);
        float[] floats = {0.0f, -0.0f, 0.1f, Float.MIN_VALUE, -Float.MIN_VALUE, Float.MAX_VALUE, Due.ENDLESS_FLOAT,
            -Due.ENDLESS_FLOAT};
        for (float f : floats) {
            turned(2, Due.bits(f), 2, Due.bits(f));
            turned(2, Due.bits(f), 3, Due.bits((double) f));
        }
        double[] doubles = {0.0, -0.0, 0.1, Double.MIN_VALUE, Double.MAX_VALUE, Due.ENDLESS, -Due.ENDLESS};
        for (double d : doubles) turned(3, Due.bits(d), 3, Due.bits(d));
    }

    private static void greaterLane() {
        for (int lane = 0; lane <= 3; lane++) {
            for (int other = 0; other <= 3; other++) {
                for (int act = 0; act <= 4; act++) {
                    RopeDrums x = new RopeDrums();
                    x.turn(0, lane);
                    x.set(1, Due.INTS, 1);
                    x.turn(1, other);
                    int greater = Math.max(lane, other);
                    Due.is("reckon(" + act + ") of lanes " + lane + ", " + other, x.reckon(act, 0, 1, 2), greater);
                    Due.is("lane(2)", x.lane(2), greater);
                }
            }
        }
    }

    private static void ofTwo(int act, int laneX, long x, int laneY, long y, long told) {
        RopeDrums walk = new RopeDrums();
        walk.set(0, laneX, x);
        walk.set(1, laneY, y);
        int lane = Math.max(laneX, laneY);
        Due.is("reckon(" + act + ") of " + x + ", " + y, walk.reckon(act, 0, 1, 2), lane);
        Due.holds(walk, 2, lane, told);
    }

    private static void bothAreTurned() {
        // As an int it is turned into a float ahead of the act, not after it.
        ofTwo(1, Due.INTS, 16777217, Due.FLOATS, Due.bits(16777216.0f), Due.bits(0.0f));
        ofTwo(1, Due.FLOATS, Due.bits(16777216.0f), Due.INTS, 16777217, Due.bits(0.0f));
        ofTwo(1, Due.LONGS, 9007199254740993L, Due.DOUBLES, Due.bits(9007199254740992.0), Due.bits(0.0));
        ofTwo(4, Due.LONGS, 9007199254740993L, Due.DOUBLES, Due.bits(2.0), Due.bits(0.0));
        ofTwo(0, Due.INTS, Due.MOST, Due.LONGS, 1, 2147483648L);
        ofTwo(2, Due.FLOATS, Due.bits(0.1f), Due.DOUBLES, Due.bits(1.0), Due.bits((double) 0.1f));
        ofTwo(3, Due.INTS, 1, Due.FLOATS, Due.bits(-0.0f), Due.bits(-Due.ENDLESS_FLOAT));
        ofTwo(3, Due.FLOATS, Due.bits(1.0f), Due.INTS, 0, Due.bits(Due.ENDLESS_FLOAT));
    }

    private static void rounded() {
        ofTwo(0, 2, Due.bits(16777216.0f), 2, Due.bits(1.0f), Due.bits(16777216.0f));
        ofTwo(0, 2, Due.bits(16777216.0f), 2, Due.bits(3.0f), Due.bits(16777220.0f));
        ofTwo(0, 2, Due.bits(Float.MAX_VALUE), 2, Due.bits(Float.MAX_VALUE), Due.bits(Due.ENDLESS_FLOAT));
        ofTwo(2, 2, 1, 2, Due.bits(0.5f), 0);
        ofTwo(3, 2, Due.bits(1.0f), 2, Due.bits(3.0f), 0x3eaaaaabL);
        ofTwo(0, 3, Due.bits(9007199254740992.0), 3, Due.bits(1.0), Due.bits(9007199254740992.0));
        ofTwo(0, 3, Due.bits(Double.MAX_VALUE), 3, Due.bits(Double.MAX_VALUE), Due.bits(Due.ENDLESS));
        ofTwo(1, 3, Due.bits(-Double.MAX_VALUE), 3, Due.bits(Double.MAX_VALUE), Due.bits(-Due.ENDLESS));
        ofTwo(2, 3, -9223372036854775807L, 3, Due.bits(0.5), Due.bits(-0.0));
        ofTwo(3, 3, Due.bits(1.0), 3, Due.bits(3.0), 0x3fd5555555555555L);
    }

    private static void intsWrap() {
        ofTwo(0, 0, Due.MOST, 0, 1, Due.LEAST);
        ofTwo(1, 0, Due.LEAST, 0, 1, Due.MOST);
        ofTwo(1, 0, 0, 0, Due.LEAST, Due.LEAST);
        ofTwo(2, 0, Due.LEAST, 0, -1, Due.LEAST);
        ofTwo(2, 0, 65536, 0, 65536, 0);
        ofTwo(2, 0, Due.MOST, 0, Due.MOST, 1);
        ofTwo(3, 0, Due.LEAST, 0, -1, Due.LEAST);
    }

    private static void longsWrap() {
        ofTwo(0, 1, Long.MAX_VALUE, 1, 1, Long.MIN_VALUE);
        ofTwo(1, 1, Long.MIN_VALUE, 0, 1, Long.MAX_VALUE);
        ofTwo(1, 0, 0, 1, Long.MIN_VALUE, Long.MIN_VALUE);
        ofTwo(2, 1, Long.MIN_VALUE, 0, -1, Long.MIN_VALUE);
        ofTwo(2, 1, 1L << 32, 1, 1L << 32, 0);
        ofTwo(2, 1, Long.MAX_VALUE, 1, Long.MAX_VALUE, 1);
        ofTwo(3, 1, Long.MIN_VALUE, 0, -1, Long.MIN_VALUE);
    }

    private static void failures() {
        Due.fails("at of no rack", x -> x.at(3, 0), -11);
        Due.fails("at of no place", x -> x.at(0, 3), -12);
        Due.fails("put of no reel", x -> x.put(1, 0, 0), -13);
        Due.fails("an int by 0", x -> x.reckon(3, 0, 6, 0), -14);
        Due.fails("a long by 0", x -> x.reckon(4, 0, 7, 0), -14);
        Due.fails("slow by 0.0", x -> x.slow(3, 0), -15);
    }

    private static void refusals() {
        Due.refuses("wind(6, 0)", x -> x.wind(6, 0), -1001);
        Due.refuses("reckon(5, 0, 0, 0)", x -> x.reckon(5, 0, 0, 0), -1002);
        Due.refuses("drum(0, bits of 0.0)", x -> x.drum(0, 0), -1002);
        RopeDrums x = new RopeDrums();
        for (int n = 0; n < 30; n++) x.spool(0, false);
        x.read(0, 0, 0);
        Due.is("spool(0, false)", x.spool(0, false), -1003);
        Due.is("failed()", x.failed(), 1);
        Due.is("count(1)", x.count(1), 1);
        for (int what = 2; what <= 5; what++) Due.is("count(" + what + ")", x.count(what), 0);
    }

    private static void refusalsAhead() {
        Due.refuses("reckon by 0 into no meter", x -> x.reckon(3, 0, 6, 10), Due.UNKNOWN);
        Due.refuses("reckon(5) by 0", x -> x.reckon(5, 0, 6, 0), Due.OUTSIDE);
        Due.refuses("reckon(5) of endless less endless", x -> x.reckon(5, 4, 4, 0), Due.OUTSIDE);
        Due.refuses("wind of endless on no drum", x -> x.wind(6, 4), Due.UNKNOWN);
        Due.refuses("write to a missing log from no meter", x -> x.write(2, 0, 10), Due.UNKNOWN);
        Due.refuses("write to no place from no meter", x -> x.write(0, 3, 10), Due.UNKNOWN);
        Due.refuses("read of a missing log to no meter", x -> x.read(6, 0, 10), Due.UNKNOWN);
        Due.refuses("read of no place to no meter", x -> x.read(4, -1, 10), Due.UNKNOWN);
        Due.refuses("copy of a missing log to no log", x -> x.copy(6, 4, false), Due.UNKNOWN);
        Due.refuses("put of no spool on a missing rack", x -> x.put(3, 0, 4), Due.UNKNOWN);
        Due.refuses("put of no spool on no place", x -> x.put(0, 3, 4), Due.UNKNOWN);
        Due.refuses("slow of no meter by a missing brake", x -> x.slow(2, 10), Due.UNKNOWN);
    }

    private static void severalRefusals() {
        Due.refuses("set(10, 4)", x -> x.set(10, 4, 0), Due.UNKNOWN);
        Due.refuses("set(10), no number", x -> x.set(10, 3, Due.NO_DOUBLE), Due.UNKNOWN);
        Due.refuses("turn(10, 4)", x -> x.turn(10, 4), Due.UNKNOWN);
        Due.refuses("reckon(5, 10)", x -> x.reckon(5, 10, 0, 0), Due.UNKNOWN);
        Due.refuses("reckon(5, .., 10)", x -> x.reckon(5, 0, 10, 0), Due.UNKNOWN);
        Due.refuses("reckon(5, .., .., 10)", x -> x.reckon(5, 0, 0, 10), Due.UNKNOWN);
        Due.refuses("drum(6), 0.0", x -> x.drum(6, 0), Due.UNKNOWN);
        Due.refuses("drum(6), no number", x -> x.drum(6, Due.NO_DOUBLE), Due.UNKNOWN);
        Due.refuses("told(6, 4)", x -> x.told(6, 4), Due.UNKNOWN);
        Due.refuses("log(8, 17)", x -> x.log(8, 17), Due.UNKNOWN);
        Due.refuses("rack(5, 13)", x -> x.rack(5, false, 13), Due.UNKNOWN);
        Due.refuses("brake(4, 3)", x -> x.brake(4, 3, 0), Due.UNKNOWN);
        Due.refuses("brake(4), no number", x -> x.brake(4, 0, Due.NO_DOUBLE), Due.UNKNOWN);
        RopeDrums x = new RopeDrums();
        for (int n = 0; n < 30; n++) x.spool(0, false);
        Due.is("spool(-1) of 31", x.spool(-1, false), Due.OUTSIDE);
        Due.is("spool(100001) of 31", x.spool(100001, true), Due.OUTSIDE);
    }

    private static void meters() {
        RopeDrums x = new RopeDrums();
        for (int m = 0; m <= 9; m++) Due.holds(x, m, Due.INTS, 0);
        for (int m = 0; m <= 9; m++) x.set(m, Due.LONGS, 100 + m);
        for (int m = 0; m <= 9; m++) Due.holds(x, m, Due.LONGS, 100 + m);
        for (int m : Due.notUpTo(9)) Due.refuses("set(" + m + ")", y -> y.set(m, 0, 0), Due.UNKNOWN);
    }

    private static void drums() {
        RopeDrums x = new RopeDrums();
        for (int d = 0; d <= 5; d++) {
            Due.is("told(" + d + ", 0)", x.told(d, 0), 0x3ff0000000000000L);
            for (int what = 1; what <= 3; what++) Due.is("told(" + d + ", " + what + ")", x.told(d, what), 0);
        }
        for (int d = 0; d <= 5; d++) x.drum(d, Due.bits(2.0 + d));
        for (int d = 0; d <= 5; d++) Due.is("told(" + d + ", 0)", x.told(d, 0), Due.bits(2.0 + d));
        for (int d : Due.notUpTo(5)) Due.refuses("drum(" + d + ")", y -> y.drum(d, Due.bits(1.0)), Due.UNKNOWN);
    }

    private static void logs() {
        RopeDrums x = new RopeDrums();
        for (int log = 0; log <= 7; log++) {
            x.log(log, 1);
            x.set(0, Due.DOUBLES, Due.bits(log + 0.1));
            x.write(log, 0, 0);
        }
        for (int log = 0; log <= 7; log++) {
            int lane = log <= 3 ? Due.FLOATS : Due.DOUBLES;
            Due.is("read(" + log + ", 0, 0)", x.read(log, 0, 0), lane);
            Due.holds(x, 0, lane, log <= 3 ? Due.bits((float) (log + 0.1)) : Due.bits(log + 0.1));
        }
        for (int log : Due.notUpTo(7)) Due.refuses("log(" + log + ", 1)", y -> y.log(log, 1), Due.UNKNOWN);
    }

    private static void logsAtFirst() {
        for (int log = 0; log <= 7; log++) {
            RopeDrums x = new RopeDrums();
            Due.is("read(" + log + ", 0, 0)", x.read(log, 0, 0), Due.MISSING);
            Due.is("write(" + log + ", 0, 0)", x.write(log, 0, 0), Due.MISSING);
            Due.is("rest(" + log + ", 0, 0)", x.rest(log, 0, 0), Due.MISSING);
            Due.is("whole(" + log + ", 0)", x.whole(log, 0), 0);
            Due.is("count(1)", x.count(1), 4);
        }
    }

    private static void spools() {
        RopeDrums x = new RopeDrums();
        for (int n = 0; n < 30; n++) Due.is("spool " + n, x.spool(n, n % 2 == 0), n);
        Due.is("spool 30", x.spool(30, true), Due.FULL);
        Due.is("count(0)", x.count(0), 30);
        x.rack(0, false, 1);
        for (int n = 0; n < 30; n++) {
            Due.is("put(0, 0, " + n + ")", x.put(0, 0, n), 1);
            Due.is("weight(0, 0, false)", x.weight(0, 0, false), n);
            Due.is("weight(0, 0, true)", x.weight(0, 0, true), n % 2 == 0 ? 2 * n + 1 : Due.MISFIT);
        }
        Due.is("put(0, 0, 30)", x.put(0, 0, 30), Due.UNKNOWN);
    }

    private static void racks() {
        RopeDrums x = new RopeDrums();
        for (int rack = 0; rack <= 4; rack++) {
            Due.is("at(" + rack + ", 0)", x.at(rack, 0), Due.MISSING);
            Due.is("put(" + rack + ", 0, NONE)", x.put(rack, 0, Due.NONE), Due.MISSING);
            Due.is("weight(" + rack + ", 0, true)", x.weight(rack, 0, true), Due.MISSING);
        }
        for (int rack = 0; rack <= 4; rack++) {
            x.spool(rack, true);
            x.rack(rack, true, 12);
            x.put(rack, 0, rack);
            x.put(rack, 11, rack);
        }
        for (int rack = 0; rack <= 4; rack++) {
            Due.is("at(" + rack + ", 0)", x.at(rack, 0), rack);
            Due.is("at(" + rack + ", 11)", x.at(rack, 11), rack);
        }
        for (int rack : Due.notUpTo(4)) Due.refuses("rack(" + rack + ", 1)", y -> y.rack(rack, true, 1), Due.UNKNOWN);
    }

    private static void brakes() {
        RopeDrums x = new RopeDrums();
        for (int b = 0; b <= 3; b++) Due.is("slow(" + b + ", 0)", x.slow(b, 0), Due.MISSING);
        for (int b = 0; b <= 3; b++) x.brake(b, 0, Due.bits(2.0 + b));
        for (int b = 0; b <= 3; b++) {
            x.set(0, Due.INTS, 2 + b + 1);
            Due.is("slow(" + b + ", 0)", x.slow(b, 0), 1);
            Due.holds(x, 0, Due.DOUBLES, Due.bits(1.0));
        }
        for (int b : Due.notUpTo(3)) Due.refuses("brake(" + b + ")", y -> y.brake(b, 2, 0), Due.UNKNOWN);
    }
}
