/** The promises 1 to 25: for each of their sentences that names a boundary case, a test of its own. */
public final class PromiseEdgesTest {
    private static final int[] NO_METERS = Due.notUpTo(9), NO_DRUMS = Due.notUpTo(5), NO_LOGS = Due.notUpTo(7);
    private static final int[] NO_RACKS = Due.notUpTo(4), NO_BRAKES = Due.notUpTo(3);

    public static void main(String[] args) {
        meters();
        acts();
        drums();
        logs();
        racks();
        brakes();
        tellings();
        Due.end();
    }

    private static void meters() {
        Due.test("1: no SPOOLS; nothing was counted", PromiseEdgesTest::newObject);
        Due.test("1: a new object shares nothing with another", PromiseEdgesTest::objectsAreApart);
        Due.test("2: set holds a number of a LANE: 1", PromiseEdgesTest::setHolds);
        Due.test("2: set UNKNOWN", PromiseEdgesTest::setUnknown);
        Due.test("2: set OUTSIDE: lane", PromiseEdgesTest::setLane);
        Due.test("2: set OUTSIDE: no number", PromiseEdgesTest::setNoNumber);
        Due.test("3: bits UNKNOWN", PromiseEdgesTest::bitsUnknown);
        Due.test("3: bits of what a METER holds", PromiseEdgesTest::bitsTold);
        Due.test("4: lane UNKNOWN", PromiseEdgesTest::laneUnknown);
        Due.test("5: turn UNKNOWN", PromiseEdgesTest::turnUnknown);
        Due.test("5: turn OUTSIDE", PromiseEdgesTest::turnOutside);
        Due.test("5: what is TURNED is held", PromiseEdgesTest::turnHolds);
    }

    private static void acts() {
        Due.test("6: (act = 0) x + y, 1 x - y, 2 x * y", PromiseEdgesTest::reckonActs);
        Due.test("6: METER into holds it, x and y may be the same", PromiseEdgesTest::reckonInto);
        Due.test("6: 3 x / y (ints, longs: cut towards 0)", PromiseEdgesTest::reckonCut);
        Due.test("6: 4 what is left of ints, longs", PromiseEdgesTest::leftOfWholes);
        Due.test("6: x / y, exactly, when it is cut", PromiseEdgesTest::leftIsExact);
        Due.test("6: with the sign of x", PromiseEdgesTest::leftHasSign);
        Due.test("6: with the sign of x, 0.0 too", PromiseEdgesTest::leftZeroHasSign);
        Due.test("6: y endless and x not: x", PromiseEdgesTest::leftByEndless);
        Due.test("6: reckon UNKNOWN", PromiseEdgesTest::reckonUnknown);
        Due.test("6: reckon OUTSIDE: act", PromiseEdgesTest::reckonOutside);
        Due.test("6: ZERO: act 3, 4 of ints, longs, y is 0", PromiseEdgesTest::reckonZero);
        Due.test("6: no ZERO: other acts, floats, doubles", PromiseEdgesTest::reckonNoZero);
        Due.test("6: VOID of acts 0 .. 3", PromiseEdgesTest::reckonVoid);
        Due.test("6: VOID: act 4 of an endless x, or by 0.0", PromiseEdgesTest::leftVoid);
        Due.test("6: what is endless, and no VOID", PromiseEdgesTest::reckonEndless);
        Due.test("7: -1 x is below y, 1 above, 0 alike", PromiseEdgesTest::compareTells);
        Due.test("7: (0.0 and -0.0 are)", PromiseEdgesTest::compareZeros);
        Due.test("7: compare OF TWO, TURNED", PromiseEdgesTest::compareTurned);
        Due.test("7: compare UNKNOWN", PromiseEdgesTest::compareUnknown);
    }

    private static void drums() {
        Due.test("8: AT, ROPE are 0.0, TURNS 0", PromiseEdgesTest::drumBegins);
        Due.test("8: drum UNKNOWN", PromiseEdgesTest::drumUnknown);
        Due.test("8: OUTSIDE: it is not 0.125 .. 1000000.0", PromiseEdgesTest::drumOutside);
        Due.test("9: s / AROUND TURNED into a long, TURNS further", PromiseEdgesTest::windTurns);
        Due.test("9: s / AROUND beyond the longs", PromiseEdgesTest::windFar);
        Due.test("9: TURNS wrapping", PromiseEdgesTest::windWraps);
        Due.test("9: AT becomes what is left of s by AROUND", PromiseEdgesTest::windAt);
        Due.test("9: ROPE v more", PromiseEdgesTest::windRope);
        Due.test("9: what a METER holds, TURNED into a double", PromiseEdgesTest::windTurned);
        Due.test("9: wind UNKNOWN", PromiseEdgesTest::windUnknown);
        Due.test("9: VOID: v is endless", PromiseEdgesTest::windVoid);
        Due.test("10: AROUND (what = 0), AT (1), ROPE (2); TURNS (3)", PromiseEdgesTest::toldEach);
        Due.test("10: told UNKNOWN", PromiseEdgesTest::toldUnknown);
        Due.test("10: told OUTSIDE", PromiseEdgesTest::toldOutside);
    }

    private static void logs() {
        Due.test("11: a new row of n places, all 0.0", PromiseEdgesTest::logIsNew);
        Due.test("11: n = 0", PromiseEdgesTest::logOfNone);
        Due.test("11: n = NONE: it is MISSING", PromiseEdgesTest::logMissing);
        Due.test("11: log UNKNOWN", PromiseEdgesTest::logUnknown);
        Due.test("11: OUTSIDE: n is not NONE .. 16", PromiseEdgesTest::logOutside);
        Due.test("12: TURNED into the LANE of a LOG", PromiseEdgesTest::writeTurned);
        Due.test("12: write UNKNOWN", PromiseEdgesTest::writeUnknown);
        Due.test("12: write MISSING, PLACE", PromiseEdgesTest::writeFails);
        Due.test("13: a METER holds what stands there: its LANE", PromiseEdgesTest::readHolds);
        Due.test("13: read UNKNOWN", PromiseEdgesTest::readUnknown);
        Due.test("13: read MISSING, PLACE", PromiseEdgesTest::readFails);
        Due.test("14: place i becomes what is left of it by place k", PromiseEdgesTest::restLeaves);
        Due.test("14: rest UNKNOWN", PromiseEdgesTest::restUnknown);
        Due.test("14: rest MISSING; PLACE", PromiseEdgesTest::restFails);
        Due.test("14: rest VOID", PromiseEdgesTest::restVoid);
        Due.test("15: each place comes, TURNED, to the same place", PromiseEdgesTest::copyAll);
        Due.test("15: or the other way (back = true)", PromiseEdgesTest::copyBack);
        Due.test("15: until there is no such place there; counted as PLACE", PromiseEdgesTest::copyPart);
        Due.test("15: copy UNKNOWN: doubles is not 4 .. 7, floats not 0 .. 3", PromiseEdgesTest::copyUnknown);
        Due.test("15: MISSING: that from which they come", PromiseEdgesTest::copyFromMissing);
        Due.test("15: then, if that has places, the other one", PromiseEdgesTest::copyToMissing);
        Due.test("16: place i TURNED into a long", PromiseEdgesTest::wholeTurned);
        Due.test("16: 0: UNKNOWN", PromiseEdgesTest::wholeUnknown);
        Due.test("16: 0: it fails; failed() tells it", PromiseEdgesTest::wholeFails);
    }

    private static void racks() {
        Due.test("17: OUTSIDE: weight is not 0 .. 100000", PromiseEdgesTest::spoolOutside);
        Due.test("17: FULL", PromiseEdgesTest::spoolFull);
        Due.test("18: a new row of n places, with nothing in them", PromiseEdgesTest::rackIsNew);
        Due.test("18: for REELS alone, or all SPOOLS", PromiseEdgesTest::rackChanges);
        Due.test("18: n = 0, n = NONE", PromiseEdgesTest::rackOfNone);
        Due.test("18: rack UNKNOWN", PromiseEdgesTest::rackUnknown);
        Due.test("18: OUTSIDE: n is not NONE .. 12", PromiseEdgesTest::rackOutside);
        Due.test("19: (NONE: nothing)", PromiseEdgesTest::putNothing);
        Due.test("19: a SPOOL comes to a place, at others too", PromiseEdgesTest::putAgain);
        Due.test("19: put UNKNOWN", PromiseEdgesTest::putUnknown);
        Due.test("19: put MISSING; PLACE", PromiseEdgesTest::putFails);
        Due.test("19: MISFIT: no REEL, and for REELS alone", PromiseEdgesTest::putMisfit);
        Due.test("20: the SPOOL; NONE", PromiseEdgesTest::atNone);
        Due.test("20: at UNKNOWN", PromiseEdgesTest::atUnknown);
        Due.test("20: at MISSING, PLACE", PromiseEdgesTest::atFails);
        Due.test("21: asked as a REEL twice that and 1", PromiseEdgesTest::weightTwice);
        Due.test("21: weight UNKNOWN", PromiseEdgesTest::weightUnknown);
        Due.test("21: MISSING (the RACK); PLACE", PromiseEdgesTest::weightFails);
        Due.test("21: MISFIT: it is asked as a REEL, and is none", PromiseEdgesTest::weightMisfit);
        Due.test("21: MISSING: nothing is there", PromiseEdgesTest::weightMissing);
    }

    private static void brakes() {
        Due.test("22: MISSING (2; grip is not looked at)", PromiseEdgesTest::brakeMissing);
        Due.test("22: any GRIP that is a number", PromiseEdgesTest::brakeGrips);
        Due.test("22: brake UNKNOWN", PromiseEdgesTest::brakeUnknown);
        Due.test("22: OUTSIDE: sort, a GRIP that is no number", PromiseEdgesTest::brakeOutside);
        Due.test("23: of a PAD what is left of v by GRIP", PromiseEdgesTest::slowByPad);
        Due.test("23: of a DRAG v / GRIP, TURNED into a float and back", PromiseEdgesTest::slowByDrag);
        Due.test("23: TURNED into a double v; the outcome (a double)", PromiseEdgesTest::slowTurned);
        Due.test("23: slow UNKNOWN", PromiseEdgesTest::slowUnknown);
        Due.test("23: slow MISSING; VOID", PromiseEdgesTest::slowFails);
    }

    private static void tellings() {
        Due.test("24: the latest call that may fail", PromiseEdgesTest::failedIsLatest);
        Due.test("24: of calls that can't fail it tells nothing", PromiseEdgesTest::failedSkips);
        Due.test("24: and was not refused", PromiseEdgesTest::failedNotRefused);
        Due.test("24: 0: it did not fail", PromiseEdgesTest::failedNot);
        Due.test("25: how many calls failed by a FAILURE 1 .. 5", PromiseEdgesTest::countFailures);
        Due.test("25: (also copy() by PLACE)", PromiseEdgesTest::countCopy);
        Due.test("25: 0: SPOOLS", PromiseEdgesTest::countSpools);
        Due.test("25: count OUTSIDE", PromiseEdgesTest::countOutside);
        Due.test("all of 512 calls are answered", PromiseEdgesTest::manyCalls);
    }

    // Promises 1 to 5

    private static void newObject() {
        RopeDrums x = new RopeDrums();
        Due.is("failed()", x.failed(), 0);
        for (int what = 0; what <= 5; what++) Due.is("count(" + what + ")", x.count(what), 0);
        x.rack(0, false, 1);
        Due.is("put(0, 0, 0)", x.put(0, 0, 0), Due.UNKNOWN);
        Due.is("spool(1, true)", x.spool(1, true), 0);
    }

    private static void objectsAreApart() {
        Due.filled();
        RopeDrums x = new RopeDrums();
        Due.is("count(0)", x.count(0), 0);
        Due.is("failed()", x.failed(), 0);
        Due.is("at(0, 0)", x.at(0, 0), Due.MISSING);
        Due.is("read(0, 0, 0)", x.read(0, 0, 0), Due.MISSING);
        Due.is("told(0, 0)", x.told(0, 0), Due.bits(1.0));
        Due.is("slow(0, 0)", x.slow(0, 0), Due.MISSING);
        for (int m = 0; m <= 9; m++) Due.holds(x, m, Due.INTS, 0);
    }

    private static void setHolds() {
        long[] bits = {-5, Long.MIN_VALUE, Due.bits(-0.0f), Due.bits(-0.0)};
        RopeDrums x = new RopeDrums();
        // Each lane after each other one: nothing of what was held before is told.
        for (int n = 0; n < 16; n++) {
            int lane = n % 4;
            Due.is("set(0)", x.set(0, n / 4, bits[n / 4]), 1);
            Due.is("set(0)", x.set(0, lane, bits[lane]), 1);
            Due.holds(x, 0, lane, bits[lane]);
        }
        for (int m = 1; m <= 9; m++) Due.holds(x, m, Due.INTS, 0);
    }

    private static void setUnknown() {
        for (int m : NO_METERS) {
            for (int lane = 0; lane <= 3; lane++) {
                int of = lane;
                Due.refuses("set(" + m + ", " + lane + ", 1)", x -> x.set(m, of, 1), Due.UNKNOWN);
            }
        }
    }

    private static void setLane() {
        for (int lane : Due.notUpTo(3)) {
            Due.refuses("set(0, " + lane + ", 1)", x -> x.set(0, lane, 1), Due.OUTSIDE);
            Due.refuses("set(9, " + lane + ")", x -> x.set(9, lane, Due.NO_DOUBLE), Due.OUTSIDE);
        }
    }

    private static void setNoNumber() {
        Due.refuses("set(3, 2)", x -> x.set(3, 2, 0x7f800001L), Due.OUTSIDE);
        Due.refuses("set(3, 2)", x -> x.set(3, 2, 0xff800001L), Due.OUTSIDE);
        Due.refuses("set(3, 3)", x -> x.set(3, 3, 0x7ff0000000000001L), Due.OUTSIDE);
        Due.refuses("set(3, 3)", x -> x.set(3, 3, 0xfff0000000000001L), Due.OUTSIDE);
        RopeDrums x = new RopeDrums();
        // What is endless is a number.
        Due.is("set(0, 2)", x.set(0, 2, 0x7f800000L), 1);
        Due.is("set(0, 2)", x.set(0, 2, 0xff800000L), 1);
        Due.is("set(0, 3)", x.set(0, 3, 0x7ff0000000000000L), 1);
        Due.is("set(0, 3)", x.set(0, 3, 0xfff0000000000000L), 1);
    }

    private static void bitsUnknown() {
        for (int m : NO_METERS) Due.refuses("bits(" + m + ")", x -> x.bits(m), Due.UNKNOWN);
    }

    private static void bitsTold() {
        RopeDrums x = Due.filled();
        long[] due = {7, 1099511627777L, 0x40200000L, 0x3fb999999999999aL, 0x7ff0000000000000L, Due.LEAST, 0, 0, 0,
            -8388608};
        for (int m = 0; m <= 9; m++) Due.is("bits(" + m + ")", x.bits(m), due[m]);
    }

    private static void laneUnknown() {
        for (int m : NO_METERS) Due.refuses("lane(" + m + ")", x -> x.lane(m), Due.UNKNOWN);
        RopeDrums x = Due.filled();
        int[] due = {0, 1, 2, 3, 3, 2, 0, 1, 3, 2};
        for (int m = 0; m <= 9; m++) Due.is("lane(" + m + ")", x.lane(m), due[m]);
    }

    private static void turnUnknown() {
        for (int m : NO_METERS) {
            for (int lane = 0; lane <= 3; lane++) {
                int into = lane;
                Due.refuses("turn(" + m + ", " + lane + ")", x -> x.turn(m, into), Due.UNKNOWN);
            }
        }
    }

    private static void turnOutside() {
        for (int m = 0; m <= 9; m++) {
            int meter = m;
            for (int lane : Due.notUpTo(3)) {
                Due.refuses("turn(" + m + ", " + lane + ")", x -> x.turn(meter, lane), Due.OUTSIDE);
            }
        }
    }

    private static void turnHolds() {
        RopeDrums x = new RopeDrums();
        x.set(0, Due.DOUBLES, Due.bits(-1e10));
        Due.is("turn(0, 1)", x.turn(0, 1), 1);
        Due.holds(x, 0, Due.LONGS, -10000000000L);
        Due.is("turn(0, 0)", x.turn(0, 0), 1);
        Due.holds(x, 0, Due.INTS, -1410065408);
        Due.is("turn(0, 2)", x.turn(0, 2), 1);
        Due.holds(x, 0, Due.FLOATS, Due.bits(-1.41006541E9f));
        Due.is("turn(0, 3)", x.turn(0, 3), 1);
        Due.holds(x, 0, Due.DOUBLES, Due.bits(-1410065408.0));
        Due.is("turn(0, 0)", x.turn(0, 0), 1);
        Due.holds(x, 0, Due.INTS, -1410065408);
    }

    // Promises 6 and 7

    private static void reckoned(int act, int lane, long a, long b, long told) {
        RopeDrums x = new RopeDrums();
        x.set(3, lane, a);
        x.set(5, lane, b);
        Due.is("reckon(" + act + ") of lane " + lane + ": " + a + ", " + b, x.reckon(act, 3, 5, 9), lane);
        Due.holds(x, 9, lane, told);
        Due.holds(x, 3, lane, a);
        Due.holds(x, 5, lane, b);
        Due.is("failed()", x.failed(), 0);
    }

    private static void doubles(int act, double a, double b, double told) {
        reckoned(act, Due.DOUBLES, Due.bits(a), Due.bits(b), Due.bits(told));
    }

    private static void floats(int act, float a, float b, float told) {
        reckoned(act, Due.FLOATS, Due.bits(a), Due.bits(b), Due.bits(told));
    }

    private static void reckonActs() {
        for (int lane = 0; lane <= 1; lane++) {
            reckoned(0, lane, 7, -9, -2);
            reckoned(1, lane, 7, -9, 16);
            reckoned(2, lane, 7, -9, -63);
        }
        floats(0, 7.5f, -9.0f, -1.5f);
        floats(1, 7.5f, -9.0f, 16.5f);
        floats(2, 7.5f, -9.0f, -67.5f);
        doubles(0, 7.5, -9.0, -1.5);
        doubles(1, 7.5, -9.0, 16.5);
        doubles(2, 7.5, -9.0, -67.5);
        doubles(1, 0.0, 0.0, 0.0);
        doubles(0, -0.0, 0.0, 0.0);
        doubles(0, -0.0, -0.0, -0.0);
        doubles(2, -0.0, 3.0, -0.0);
    }

    private static void reckonInto() {
        RopeDrums x = new RopeDrums();
        x.set(0, Due.INTS, 12);
        x.set(1, Due.LONGS, 5);
        Due.is("reckon(1, 0, 1, 0)", x.reckon(1, 0, 1, 0), Due.LONGS);
        Due.holds(x, 0, Due.LONGS, 7);
        Due.is("reckon(1, 0, 1, 1)", x.reckon(1, 0, 1, 1), Due.LONGS);
        Due.holds(x, 1, Due.LONGS, 2);
        Due.is("reckon(4, 0, 0, 0)", x.reckon(4, 0, 0, 0), Due.LONGS);
        Due.holds(x, 0, Due.LONGS, 0);
        x.set(2, Due.DOUBLES, Due.bits(0.5));
        Due.is("reckon(0, 3, 3, 2)", x.reckon(0, 3, 3, 2), Due.INTS);
        Due.holds(x, 2, Due.INTS, 0);
    }

    private static void reckonCut() {
        for (int lane = 0; lane <= 1; lane++) {
            reckoned(3, lane, 7, 2, 3);
            reckoned(3, lane, -7, 2, -3);
            reckoned(3, lane, 7, -2, -3);
            reckoned(3, lane, -7, -2, 3);
            reckoned(3, lane, 1, 2, 0);
            reckoned(3, lane, -1, 2, 0);
            reckoned(3, lane, 0, -5, 0);
        }
        floats(3, 7.0f, 2.0f, 3.5f);
        doubles(3, -7.0, 2.0, -3.5);
    }

    private static void leftOfWholes() {
        for (int lane = 0; lane <= 1; lane++) {
            reckoned(4, lane, 7, 2, 1);
            reckoned(4, lane, -7, 2, -1);
            reckoned(4, lane, 7, -2, 1);
            reckoned(4, lane, -7, -2, -1);
            reckoned(4, lane, 3, 5, 3);
            reckoned(4, lane, 5, 5, 0);
        }
        reckoned(4, Due.INTS, Due.LEAST, -1, 0);
        reckoned(4, Due.INTS, Due.LEAST, Due.MOST, -1);
        reckoned(4, Due.LONGS, Long.MIN_VALUE, -1, 0);
        reckoned(4, Due.LONGS, Long.MIN_VALUE, Long.MAX_VALUE, -1);
    }

    private static void leftIsExact() {
        doubles(4, 1.0, 0.1, 0.09999999999999995);
        // x / y, rounded, is 3.0 here; exactly it is a little less.
        doubles(4, 0.3, 0.1, 0.09999999999999998);
        doubles(4, 1e23, 3.0, 2.0);
        doubles(4, 0x1p1000, 3.0, 1.0);
        doubles(4, 0x1p1001, 3.0, 2.0);
        doubles(4, 0x1p1023, 5.0, 3.0);
        doubles(4, 0x1p1023, 0x3p-1074, 0x2p-1074);
        doubles(4, Double.MAX_VALUE, Double.MIN_VALUE, 0.0);
        doubles(4, Double.MAX_VALUE, Math.nextDown(Double.MAX_VALUE), 0x1p971);
        doubles(4, Double.MIN_VALUE, Double.MAX_VALUE, Double.MIN_VALUE);
        doubles(4, 0x7p-1074, 0x3p-1074, 0x1p-1074);
        doubles(4, 2.0, Math.nextDown(1.0), 0x1p-52);
        doubles(4, 1.0, Math.nextUp(1.0), 1.0);
        floats(4, 1.0f, 0.1f, 0.09999998658895493f);
        floats(4, 0x1p127f, 3.0f, 2.0f);
        floats(4, 0x1p127f, 0x3p-149f, 0x1p-149f);
        floats(4, Float.MAX_VALUE, Float.MIN_VALUE, 0.0f);
        floats(4, Float.MIN_VALUE, Float.MAX_VALUE, Float.MIN_VALUE);
    }

    private static void leftHasSign() {
        doubles(4, 5.5, 2.0, 1.5);
        doubles(4, 5.5, -2.0, 1.5);
        doubles(4, -5.5, 2.0, -1.5);
        doubles(4, -5.5, -2.0, -1.5);
        floats(4, 5.5f, -2.0f, 1.5f);
        floats(4, -5.5f, 2.0f, -1.5f);
    }

    private static void leftZeroHasSign() {
        doubles(4, 6.0, -2.0, 0.0);
        doubles(4, -6.0, 2.0, -0.0);
        doubles(4, -6.0, -2.0, -0.0);
        doubles(4, -2.0, 2.0, -0.0);
        doubles(4, 0.0, -2.0, 0.0);
        doubles(4, -0.0, 2.0, -0.0);
        doubles(4, -0.0, Due.ENDLESS, -0.0);
        floats(4, -6.0f, 2.0f, -0.0f);
        floats(4, -0.0f, 2.0f, -0.0f);
        floats(4, 0.0f, -2.0f, 0.0f);
    }

    private static void leftByEndless() {
        for (double v : new double[] {0.0, -3.25, 3.25, Double.MIN_VALUE, Double.MAX_VALUE, -Double.MAX_VALUE}) {
            doubles(4, v, Due.ENDLESS, v);
            doubles(4, v, -Due.ENDLESS, v);
        }
        for (float v : new float[] {-0.0f, 3.25f, Float.MIN_VALUE, -Float.MAX_VALUE}) {
            floats(4, v, Due.ENDLESS_FLOAT, v);
            floats(4, v, -Due.ENDLESS_FLOAT, v);
        }
    }

    private static void reckonUnknown() {
        for (int m : NO_METERS) {
            Due.refuses("reckon(0, " + m + ", 0, 0)", x -> x.reckon(0, m, 0, 0), Due.UNKNOWN);
            Due.refuses("reckon(0, 0, " + m + ", 0)", x -> x.reckon(0, 0, m, 0), Due.UNKNOWN);
            Due.refuses("reckon(0, 0, 0, " + m + ")", x -> x.reckon(0, 0, 0, m), Due.UNKNOWN);
        }
    }

    private static void reckonOutside() {
        for (int act : Due.notUpTo(4)) Due.refuses("reckon(" + act + ")", x -> x.reckon(act, 0, 1, 2), Due.OUTSIDE);
    }

    private static void reckonZero() {
        for (int a = 3; a <= 4; a++) {
            int act = a;
            Due.fails("int by int", x -> x.reckon(act, 0, 6, 1), Due.ZERO);
            Due.fails("long by int", x -> x.reckon(act, 1, 6, 1), Due.ZERO);
            Due.fails("int by long", x -> x.reckon(act, 0, 7, 7), Due.ZERO);
            Due.fails("long by long", x -> x.reckon(act, 1, 7, 2), Due.ZERO);
            Due.fails("0 by 0", x -> x.reckon(act, 6, 6, 6), Due.ZERO);
        }
    }

    private static void reckonNoZero() {
        for (int a = 0; a <= 2; a++) {
            int act = a;
            Due.passes("act " + a + " by the int 0", x -> x.reckon(act, 0, 6, 0), Due.INTS);
            Due.passes("act " + a + " by the long 0", x -> x.reckon(act, 0, 7, 0), Due.LONGS);
        }
        Due.passes("a float by the int 0", x -> x.reckon(3, 2, 6, 0), Due.FLOATS);
        Due.passes("a double by the long 0", x -> x.reckon(3, 3, 7, 0), Due.DOUBLES);
        Due.fails("what is left of a float by the int 0", x -> x.reckon(4, 2, 6, 0), Due.VOID);
        Due.fails("what is left of a double by the long 0", x -> x.reckon(4, 3, 7, 0), Due.VOID);
        reckoned(4, Due.LONGS, 0, 5, 0);
        // Its lowest 32 bits are 0, but it is not.
        reckoned(3, Due.LONGS, 1L << 33, 1L << 32, 2);
    }

    private static void voids(int act, double a, double b) {
        for (int lane = 2; lane <= 3; lane++) {
            RopeDrums x = new RopeDrums();
            x.set(0, lane, lane == 2 ? Due.bits((float) a) : Due.bits(a));
            x.set(1, lane, lane == 2 ? Due.bits((float) b) : Due.bits(b));
            x.set(2, Due.LONGS, 77);
            Due.is("reckon(" + act + ") of lane " + lane + ": " + a + ", " + b, x.reckon(act, 0, 1, 2), Due.VOID);
            Due.holds(x, 2, Due.LONGS, 77);
            Due.is("failed()", x.failed(), 5);
            Due.is("count(5)", x.count(5), 1);
        }
    }

    private static void reckonVoid() {
        double e = Due.ENDLESS;
        voids(0, e, -e);
        voids(0, -e, e);
        voids(1, e, e);
        voids(1, -e, -e);
        for (double zero : new double[] {0.0, -0.0}) {
            voids(2, e, zero);
            voids(2, -e, zero);
            voids(2, zero, e);
            voids(2, zero, -e);
            voids(3, zero, 0.0);
            voids(3, zero, -0.0);
        }
        voids(3, e, e);
        voids(3, e, -e);
        voids(3, -e, e);
        voids(3, -e, -e);
    }

    private static void leftVoid() {
        double e = Due.ENDLESS;
        for (double by : new double[] {2.0, 0.0, -0.0, e, -e}) {
            voids(4, e, by);
            voids(4, -e, by);
        }
        for (double of : new double[] {2.0, 0.0, -0.0, -2.0}) {
            voids(4, of, 0.0);
            voids(4, of, -0.0);
        }
    }

    private static void reckonEndless() {
        double e = Due.ENDLESS;
        doubles(0, e, e, e);
        doubles(0, -e, 5.0, -e);
        doubles(1, e, -e, e);
        doubles(1, 5.0, e, -e);
        doubles(2, -e, e, -e);
        doubles(2, -e, Double.MIN_VALUE, -e);
        doubles(3, e, -2.0, -e);
        doubles(3, e, 0.0, e);
        doubles(3, e, -0.0, -e);
        doubles(3, 2.0, 0.0, e);
        doubles(3, 2.0, -0.0, -e);
        doubles(3, 2.0, -e, -0.0);
        doubles(3, 0.0, e, 0.0);
        floats(0, Due.ENDLESS_FLOAT, Due.ENDLESS_FLOAT, Due.ENDLESS_FLOAT);
        floats(3, -2.0f, 0.0f, -Due.ENDLESS_FLOAT);
        floats(3, 2.0f, -Due.ENDLESS_FLOAT, -0.0f);
        floats(1, Float.MAX_VALUE, -Float.MAX_VALUE, Due.ENDLESS_FLOAT);
    }

    private static void compared(int laneX, long a, int laneY, long b, int told) {
        RopeDrums x = new RopeDrums();
        x.set(0, laneX, a);
        x.set(9, laneY, b);
        Due.is("compare of " + a + ", " + b, x.compare(0, 9), told);
        Due.is("compare of " + b + ", " + a, x.compare(9, 0), -told);
        Due.is("compare with itself", x.compare(9, 9), 0);
    }

    private static void compareTells() {
        compared(0, Due.LEAST, 0, Due.MOST, -1);
        compared(0, 5, 0, 5, 0);
        compared(1, Long.MIN_VALUE, 1, Long.MAX_VALUE, -1);
        compared(1, Long.MAX_VALUE - 1, 1, Long.MAX_VALUE, -1);
        compared(2, Due.bits(-Due.ENDLESS_FLOAT), 2, Due.bits(-Float.MAX_VALUE), -1);
        compared(2, 1, 2, 0, 1);
        compared(3, Due.bits(Due.ENDLESS), 3, Due.bits(Double.MAX_VALUE), 1);
        compared(3, Due.bits(Due.ENDLESS), 3, Due.bits(Due.ENDLESS), 0);
        compared(3, Due.bits(-Double.MIN_VALUE), 3, Due.bits(-0.0), -1);
    }

    private static void compareZeros() {
        compared(3, Due.bits(0.0), 3, Due.bits(-0.0), 0);
        compared(2, Due.bits(-0.0f), 2, Due.bits(0.0f), 0);
        compared(2, Due.bits(-0.0f), 3, Due.bits(0.0), 0);
        compared(0, 0, 3, Due.bits(-0.0), 0);
        compared(2, Due.bits(-0.0f), 1, 0, 0);
    }

    private static void compareTurned() {
        compared(1, 16777217, 2, Due.bits(16777216.0f), 0);
        compared(1, 16777217, 3, Due.bits(16777216.0), 1);
        compared(0, 16777217, 2, Due.bits(16777216.0f), 0);
        compared(1, Long.MAX_VALUE, 3, Due.bits(0x1p63), 0);
        compared(1, 4294967296L, 0, 0, 1);
        compared(2, Due.bits(0.1f), 3, Due.bits(0.1), 1);
        compared(2, Due.bits(Due.ENDLESS_FLOAT), 3, Due.bits(Double.MAX_VALUE), 1);
        compared(2, Due.bits(Due.ENDLESS_FLOAT), 3, Due.bits(Due.ENDLESS), 0);
    }

    private static void compareUnknown() {
        for (int m : NO_METERS) {
            Due.refuses("compare(" + m + ", 0)", x -> x.compare(m, 0), Due.UNKNOWN);
            Due.refuses("compare(0, " + m + ")", x -> x.compare(0, m), Due.UNKNOWN);
        }
    }

    // Promises 8 to 10

    private static void stands(RopeDrums x, int drum, double at, double rope, long turns) {
        Due.is("AT", x.told(drum, 1), Due.bits(at));
        Due.is("ROPE", x.told(drum, 2), Due.bits(rope));
        Due.is("TURNS", x.told(drum, 3), turns);
    }

    private static void wound(RopeDrums x, int drum, double v) {
        x.set(0, Due.DOUBLES, Due.bits(v));
        Due.is("wind " + v, x.wind(drum, 0), 1);
    }

    private static RopeDrums around(double length) {
        RopeDrums x = new RopeDrums();
        Due.is("drum(5, " + length + ")", x.drum(5, Due.bits(length)), 1);
        return x;
    }

    private static void drumBegins() {
        RopeDrums x = around(2.0);
        wound(x, 5, -5.0);
        wound(x, 4, 7.5);
        stands(x, 5, -1.0, -5.0, -2);
        Due.is("drum(5, 2.0)", x.drum(5, Due.bits(2.0)), 1);
        stands(x, 5, 0.0, 0.0, 0);
        Due.is("AROUND", x.told(5, 0), Due.bits(2.0));
        stands(x, 4, 0.5, 7.5, 7);
        Due.is("AROUND of another", x.told(4, 0), Due.bits(1.0));
    }

    private static void drumUnknown() {
        for (int d : NO_DRUMS) Due.refuses("drum(" + d + ", 1.0)", x -> x.drum(d, Due.bits(1.0)), Due.UNKNOWN);
    }

    private static void drumOutside() {
        for (double good : new double[] {0.125, Math.nextUp(0.125), Math.nextDown(1000000.0), 1000000.0}) {
            Due.is("AROUND", around(good).told(5, 0), Due.bits(good));
        }
        double[] bad = {Math.nextDown(0.125), Math.nextUp(1000000.0), 0.0, -0.0, -0.125, -1.0, -1000000.0,
            Double.MIN_VALUE, Double.MAX_VALUE, Due.ENDLESS, -Due.ENDLESS};
        for (double d : bad) Due.refuses("drum(0, " + d + ")", x -> x.drum(0, Due.bits(d)), Due.OUTSIDE);
        for (long no : new long[] {Due.NO_DOUBLE, 0x7ff0000000000001L, -1L, Long.MAX_VALUE}) {
            Due.refuses("drum(0), no number", x -> x.drum(0, no), Due.OUTSIDE);
        }
    }

    private static void windTurns() {
        RopeDrums x = around(2.0);
        wound(x, 5, 1.75);
        stands(x, 5, 1.75, 1.75, 0);
        wound(x, 5, 0.25);
        stands(x, 5, 0.0, 2.0, 1);
        wound(x, 5, -0.5);
        // Towards 0, not down: -0.25 of a turn is none.
        stands(x, 5, -0.5, 1.5, 1);
        wound(x, 5, -1.5);
        stands(x, 5, -0.0, 0.0, 0);
        wound(x, 5, -7.0);
        stands(x, 5, -1.0, -7.0, -3);
        RopeDrums y = around(0.1 * 3);
        // s / AROUND is rounded as doubles are, though what is left is made exactly.
        wound(y, 5, 0.9);
        stands(y, 5, 0.9 % (0.1 * 3), 0.9, (long) (0.9 / (0.1 * 3)));
    }

    private static void windFar() {
        RopeDrums x = around(0.125);
        wound(x, 5, Double.MAX_VALUE);
        stands(x, 5, 0.0, Double.MAX_VALUE, Long.MAX_VALUE);
        RopeDrums y = around(0.125);
        wound(y, 5, -Double.MAX_VALUE);
        stands(y, 5, -0.0, -Double.MAX_VALUE, Long.MIN_VALUE);
        RopeDrums z = around(1.0);
        wound(z, 5, 0x1p63);
        stands(z, 5, 0.0, 0x1p63, Long.MAX_VALUE);
        RopeDrums near = around(1.0);
        wound(near, 5, Math.nextDown(0x1p63));
        stands(near, 5, 0.0, Math.nextDown(0x1p63), 9223372036854774784L);
    }

    private static void windWraps() {
        RopeDrums x = around(1.0);
        wound(x, 5, 1e300);
        wound(x, 5, 1.0);
        Due.is("TURNS", x.told(5, 3), Long.MIN_VALUE);
        wound(x, 5, -1.0);
        Due.is("TURNS", x.told(5, 3), Long.MAX_VALUE);
        wound(x, 5, 1e300);
        Due.is("TURNS", x.told(5, 3), -2);
        RopeDrums y = around(1.0);
        wound(y, 5, -1e300);
        wound(y, 5, -1.0);
        Due.is("TURNS", y.told(5, 3), Long.MAX_VALUE);
    }

    private static void windAt() {
        RopeDrums x = around(0.3);
        double at = 0.0;
        for (int n = 0; n < 20; n++) {
            wound(x, 5, 0.7);
            at = (at + 0.7) % 0.3;
            Due.is("AT", x.told(5, 1), Due.bits(at));
        }
        RopeDrums y = around(1000000.0);
        wound(y, 5, Math.nextDown(1000000.0));
        stands(y, 5, Math.nextDown(1000000.0), Math.nextDown(1000000.0), 0);
        // AT is no part of s any more where v is this great.
        wound(y, 5, 0x1p1000);
        Due.is("AT", y.told(5, 1), Due.bits(0x1p1000 % 1000000.0));
        RopeDrums z = around(1.0);
        wound(z, 5, -0.0);
        stands(z, 5, 0.0, 0.0, 0);
        wound(z, 5, -1.0);
        wound(z, 5, -0.0);
        stands(z, 5, -0.0, -1.0, -1);
    }

    private static void windRope() {
        RopeDrums x = around(1.0);
        wound(x, 5, 0x1p60);
        wound(x, 5, 0.25);
        stands(x, 5, 0.25, 0x1p60, 1L << 60);
        RopeDrums y = around(0.125);
        wound(y, 5, Double.MAX_VALUE);
        wound(y, 5, Double.MAX_VALUE);
        Due.is("ROPE", y.told(5, 2), Due.bits(Due.ENDLESS));
        wound(y, 5, -Double.MAX_VALUE);
        Due.is("ROPE", y.told(5, 2), Due.bits(Due.ENDLESS));
        RopeDrums z = around(0.125);
        wound(z, 5, -Double.MAX_VALUE);
        wound(z, 5, -Double.MAX_VALUE);
        wound(z, 5, Double.MAX_VALUE);
        Due.is("ROPE", z.told(5, 2), Due.bits(-Due.ENDLESS));
    }

    private static void windTurned() {
        long[] bits = {3, 9007199254740993L, Due.bits(0.1f), Due.bits(0.1)};
        double[] due = {3.0, 9007199254740992.0, 0.1f, 0.1};
        for (int lane = 0; lane <= 3; lane++) {
            RopeDrums x = new RopeDrums();
            x.set(9, lane, bits[lane]);
            Due.is("wind(0, 9)", x.wind(0, 9), 1);
            Due.is("ROPE", x.told(0, 2), Due.bits(due[lane]));
            Due.holds(x, 9, lane, bits[lane]);
        }
    }

    private static void windUnknown() {
        for (int d : NO_DRUMS) Due.refuses("wind(" + d + ", 0)", x -> x.wind(d, 0), Due.UNKNOWN);
        for (int m : NO_METERS) Due.refuses("wind(0, " + m + ")", x -> x.wind(0, m), Due.UNKNOWN);
    }

    private static void windVoid() {
        Due.fails("wind(0, 4)", x -> x.wind(0, 4), Due.VOID);
        Due.fails("wind(5, 9)", x -> x.wind(5, 9), Due.VOID);
        Due.passes("wind(0, 0)", x -> x.wind(0, 0), 1);
        // The greatest is not endless.
        wound(around(1.0), 5, Double.MAX_VALUE);
        wound(around(1.0), 5, -Double.MAX_VALUE);
    }

    private static void toldEach() {
        RopeDrums x = around(2.5);
        wound(x, 5, 7.0);
        Due.is("told(5, 0)", x.told(5, 0), Due.bits(2.5));
        Due.is("told(5, 1)", x.told(5, 1), Due.bits(2.0));
        Due.is("told(5, 2)", x.told(5, 2), Due.bits(7.0));
        Due.is("told(5, 3)", x.told(5, 3), 2);
    }

    private static void toldUnknown() {
        for (int d : NO_DRUMS) Due.refuses("told(" + d + ", 0)", x -> x.told(d, 0), Due.UNKNOWN);
    }

    private static void toldOutside() {
        for (int what : Due.notUpTo(3)) Due.refuses("told(0, " + what + ")", x -> x.told(0, what), Due.OUTSIDE);
    }

    // Promises 11 to 16

    private static void mark(RopeDrums x, int log, int i, double v) {
        x.set(8, Due.DOUBLES, Due.bits(v));
        Due.is("write(" + log + ", " + i + ", 8)", x.write(log, i, 8), 1);
    }

    private static void marked(RopeDrums x, int log, int i, double v) {
        int lane = log < 4 ? Due.FLOATS : Due.DOUBLES;
        Due.is("read(" + log + ", " + i + ", 8)", x.read(log, i, 8), lane);
        Due.holds(x, 8, lane, log < 4 ? Due.bits((float) v) : Due.bits(v));
    }

    private static RopeDrums logged(int log, double... marks) {
        RopeDrums x = new RopeDrums();
        x.log(log, marks.length);
        for (int i = 0; i < marks.length; i++) mark(x, log, i, marks[i]);
        return x;
    }

    private static void logIsNew() {
        for (int log = 0; log <= 7; log++) {
            RopeDrums x = new RopeDrums();
            Due.is("log(" + log + ", 16)", x.log(log, 16), 1);
            for (int i = 0; i < 16; i++) mark(x, log, i, -1.5 - i);
            for (int i = 0; i < 16; i++) marked(x, log, i, -1.5 - i);
            Due.is("log(" + log + ", 16) again", x.log(log, 16), 1);
            for (int i = 0; i < 16; i++) marked(x, log, i, 0.0);
        }
        RopeDrums x = logged(0, 1.0, 2.0, 3.0);
        // A row that was cut and made longer again is a new one, too.
        x.log(0, 1);
        Due.is("write(0, 1, 8)", x.write(0, 1, 8), Due.PLACE);
        x.log(0, 3);
        for (int i = 0; i < 3; i++) marked(x, 0, i, 0.0);
        RopeDrums y = logged(4, 1.0);
        y.log(4, Due.NONE);
        y.log(4, 1);
        marked(y, 4, 0, 0.0);
    }

    private static void logOfNone() {
        for (int log = 0; log <= 7; log++) {
            RopeDrums x = new RopeDrums();
            Due.is("log(" + log + ", 0)", x.log(log, 0), 1);
            Due.is("read(" + log + ", 0, 0)", x.read(log, 0, 0), Due.PLACE);
            Due.is("write(" + log + ", 0, 0)", x.write(log, 0, 0), Due.PLACE);
        }
    }

    private static void logMissing() {
        for (int log = 0; log <= 7; log++) {
            RopeDrums x = logged(log, 1.0);
            Due.is("log(" + log + ", NONE)", x.log(log, Due.NONE), 1);
            Due.is("read(" + log + ", 0, 0)", x.read(log, 0, 0), Due.MISSING);
            Due.is("log(" + log + ", NONE) again", x.log(log, Due.NONE), 1);
            Due.is("write(" + log + ", 0, 0)", x.write(log, 0, 0), Due.MISSING);
        }
    }

    private static void logUnknown() {
        for (int log : NO_LOGS) {
            for (int n : new int[] {Due.NONE, 0, 16}) {
                Due.refuses("log(" + log + ", " + n + ")", x -> x.log(log, n), Due.UNKNOWN);
            }
        }
    }

    private static void logOutside() {
        for (int n : new int[] {-2, 17, Due.LEAST, Due.MOST}) {
            for (int log = 0; log <= 7; log++) {
                int of = log;
                Due.refuses("log(" + log + ", " + n + ")", x -> x.log(of, n), Due.OUTSIDE);
            }
        }
    }

    private static void writeTurned() {
        long[] bits = {16777217, (1L << 62) + (1L << 38) + 1L, Due.bits(0.1f), Due.bits(0.1)};
        float[] floats = {16777216.0f, Float.intBitsToFloat(0x5e800001), 0.1f, 0.1f};
        double[] doubles = {16777217.0, 0x1p62 + 0x1p38, 0.1f, 0.1};
        for (int lane = 0; lane <= 3; lane++) {
            RopeDrums x = new RopeDrums();
            x.log(0, 1);
            x.log(7, 1);
            x.set(3, lane, bits[lane]);
            Due.is("write(0, 0, 3)", x.write(0, 0, 3), 1);
            Due.is("write(7, 0, 3)", x.write(7, 0, 3), 1);
            Due.holds(x, 3, lane, bits[lane]);
            marked(x, 0, 0, floats[lane]);
            marked(x, 7, 0, doubles[lane]);
        }
        RopeDrums x = logged(3, 1e39, -1e39, 1e-60, -1e-60);
        marked(x, 3, 0, Due.ENDLESS);
        marked(x, 3, 1, -Due.ENDLESS);
        marked(x, 3, 2, 0.0);
        marked(x, 3, 3, -0.0);
    }

    private static void writeUnknown() {
        for (int log : NO_LOGS) Due.refuses("write(" + log + ", 0, 0)", x -> x.write(log, 0, 0), Due.UNKNOWN);
        for (int m : NO_METERS) Due.refuses("write(0, 0, " + m + ")", x -> x.write(0, 0, m), Due.UNKNOWN);
    }

    private static void writeFails() {
        for (int log = 0; log < 8; log += 4) {
            int of = log;
            for (int i : new int[] {3, -1, Due.LEAST, Due.MOST}) {
                Due.fails("write(" + log + ", " + i + ", 0)", x -> x.write(of, i, 0), Due.PLACE);
                Due.fails("write to a missing log", x -> x.write(of + 2, i, 0), Due.MISSING);
            }
            Due.fails("write to an empty log", x -> x.write(of + 1, 0, 0), Due.PLACE);
            Due.fails("write(" + (log + 3) + ", 16, 0)", x -> x.write(of + 3, 16, 0), Due.PLACE);
            Due.passes("write(" + log + ", 2, 0)", x -> x.write(of, 2, 0), 1);
            Due.passes("write(" + (log + 3) + ", 15, 0)", x -> x.write(of + 3, 15, 0), 1);
        }
    }

    private static void readHolds() {
        double[] marks = {0.0, -0.0, 0.1, Due.ENDLESS, -Due.ENDLESS, Float.MIN_VALUE};
        for (int log = 0; log <= 7; log++) {
            RopeDrums x = logged(log, marks);
            for (int i = 0; i < marks.length; i++) marked(x, log, i, marks[i]);
        }
    }

    private static void readUnknown() {
        for (int log : NO_LOGS) Due.refuses("read(" + log + ", 0, 0)", x -> x.read(log, 0, 0), Due.UNKNOWN);
        for (int m : NO_METERS) Due.refuses("read(0, 0, " + m + ")", x -> x.read(0, 0, m), Due.UNKNOWN);
    }

    private static void readFails() {
        for (int log = 0; log < 8; log += 4) {
            int of = log;
            for (int i : new int[] {3, -1, Due.LEAST, Due.MOST}) {
                Due.fails("read(" + log + ", " + i + ", 0)", x -> x.read(of, i, 0), Due.PLACE);
                Due.fails("read of a missing log", x -> x.read(of + 2, i, 0), Due.MISSING);
            }
            Due.fails("read of an empty log", x -> x.read(of + 1, 0, 0), Due.PLACE);
            Due.fails("read(" + (log + 3) + ", 16, 0)", x -> x.read(of + 3, 16, 0), Due.PLACE);
            Due.passes("read(" + log + ", 2, 0)", x -> x.read(of, 2, 0), of == 0 ? Due.FLOATS : Due.DOUBLES);
        }
    }

    private static void restLeaves() {
        for (int log = 3; log <= 4; log++) {
            RopeDrums x = logged(log, 5.5, -2.0, -6.0, Due.ENDLESS, -0.0);
            Due.is("rest(0, 1)", x.rest(log, 0, 1), 1);
            marked(x, log, 0, 1.5);
            Due.is("rest(2, 1)", x.rest(log, 2, 1), 1);
            marked(x, log, 2, -0.0);
            Due.is("rest(1, 3)", x.rest(log, 1, 3), 1);
            marked(x, log, 1, -2.0);
            Due.is("rest(1, 1)", x.rest(log, 1, 1), 1);
            marked(x, log, 1, -0.0);
            Due.is("rest(4, 0)", x.rest(log, 4, 0), 1);
            marked(x, log, 4, -0.0);
            marked(x, log, 3, Due.ENDLESS);
        }
        RopeDrums x = logged(3, Float.MAX_VALUE, 0.1f);
        Due.is("rest(3, 0, 1)", x.rest(3, 0, 1), 1);
        marked(x, 3, 0, Float.MAX_VALUE % 0.1f);
        RopeDrums y = logged(4, 0x1p1023, 0x3p-1074);
        Due.is("rest(4, 0, 1)", y.rest(4, 0, 1), 1);
        marked(y, 4, 0, 0x2p-1074);
    }

    private static void restUnknown() {
        for (int log : NO_LOGS) Due.refuses("rest(" + log + ", 0, 0)", x -> x.rest(log, 0, 0), Due.UNKNOWN);
    }

    private static void restFails() {
        for (int log = 0; log < 8; log += 4) {
            int of = log;
            for (int i : new int[] {3, -1, Due.LEAST, Due.MOST}) {
                Due.fails("rest(" + log + ", " + i + ", 0)", x -> x.rest(of, i, 0), Due.PLACE);
                Due.fails("rest(" + log + ", 0, " + i + ")", x -> x.rest(of, 0, i), Due.PLACE);
                Due.fails("PLACE ahead of VOID", x -> x.rest(of, 2, i), Due.PLACE);
                Due.fails("MISSING ahead of PLACE", x -> x.rest(of + 2, i, i), Due.MISSING);
            }
            Due.fails("rest of an empty log", x -> x.rest(of + 1, 0, 0), Due.PLACE);
            Due.fails("rest of no 16th place", x -> x.rest(of + 3, 16, 15), Due.PLACE);
            Due.fails("rest by no 16th place", x -> x.rest(of + 3, 15, 16), Due.PLACE);
            Due.passes("rest(" + (log + 3) + ", 15, 13)", x -> x.rest(of + 3, 15, 13), 1);
        }
    }

    private static void restVoid() {
        for (int log = 0; log < 8; log += 4) {
            int of = log;
            Due.fails("rest by 0.0", x -> x.rest(of, 0, 1), Due.VOID);
            Due.fails("rest of 0.0 by itself", x -> x.rest(of, 1, 1), Due.VOID);
            Due.fails("rest of endless", x -> x.rest(of, 2, 0), Due.VOID);
            Due.fails("rest of endless by 0.0", x -> x.rest(of, 2, 1), Due.VOID);
            Due.fails("rest of endless by itself", x -> x.rest(of, 2, 2), Due.VOID);
            Due.is("rest by -0.0", logged(of, 1.0, -0.0).rest(of, 0, 1), Due.VOID);
            Due.is("rest of endless below", logged(of, -Due.ENDLESS, 1.0).rest(of, 0, 1), Due.VOID);
        }
    }

    private static void copyAll() {
        RopeDrums x = logged(4, 0.1, 1e39, -1e-60, 16777217.0);
        x.log(3, 6);
        mark(x, 3, 3, 9.0);
        mark(x, 3, 4, 8.0);
        Due.is("copy(4, 3, false)", x.copy(4, 3, false), 4);
        Due.is("failed()", x.failed(), 0);
        Due.is("count(2)", x.count(2), 0);
        double[] due = {0.1f, Due.ENDLESS, -0.0, 16777216.0, 8.0, 0.0};
        for (int i = 0; i < due.length; i++) marked(x, 3, i, due[i]);
        marked(x, 4, 0, 0.1);
        marked(x, 4, 3, 16777217.0);
        RopeDrums full = logged(7, new double[16]);
        mark(full, 7, 15, -2.5);
        full.log(0, 16);
        Due.is("copy(7, 0, false)", full.copy(7, 0, false), 16);
        marked(full, 0, 15, -2.5);
    }

    private static void copyBack() {
        RopeDrums x = logged(3, 0.1, Due.ENDLESS, -0.0);
        x.log(4, 4);
        mark(x, 4, 3, 0.7);
        Due.is("copy(4, 3, true)", x.copy(4, 3, true), 3);
        Due.is("failed()", x.failed(), 0);
        double[] due = {0.1f, Due.ENDLESS, -0.0, 0.7};
        for (int i = 0; i < due.length; i++) marked(x, 4, i, due[i]);
        marked(x, 3, 0, 0.1);
        RopeDrums none = new RopeDrums();
        none.log(0, 0);
        none.log(4, 0);
        Due.is("copy of none", none.copy(4, 0, false), 0);
        Due.is("copy of none, back", none.copy(4, 0, true), 0);
        Due.is("failed()", none.failed(), 0);
    }

    private static void copyPart() {
        RopeDrums x = logged(4, 1.5, 2.5, 3.5);
        x.log(0, 2);
        Due.is("copy(4, 0, false)", x.copy(4, 0, false), 2);
        Due.is("failed()", x.failed(), 2);
        Due.is("count(2)", x.count(2), 1);
        marked(x, 0, 0, 1.5);
        marked(x, 0, 1, 2.5);
        marked(x, 4, 2, 3.5);
        RopeDrums y = logged(0, 1.5, 2.5, 3.5);
        y.log(7, 1);
        Due.is("copy(7, 0, true)", y.copy(7, 0, true), 1);
        Due.is("failed()", y.failed(), 2);
        Due.is("count(2)", y.count(2), 1);
        marked(y, 7, 0, 1.5);
        Due.failsSilently("copy to an empty log", z -> z.copy(4, 1, false), Due.PLACE, 0);
        Due.failsSilently("copy back to an empty log", z -> z.copy(5, 0, true), Due.PLACE, 0);
    }

    private static void copyUnknown() {
        for (int log : new int[] {-1, 0, 3, 8, Due.LEAST, Due.MOST}) {
            Due.refuses("copy(" + log + ", 0, false)", x -> x.copy(log, 0, false), Due.UNKNOWN);
            Due.refuses("copy(" + log + ", 0, true)", x -> x.copy(log, 0, true), Due.UNKNOWN);
        }
        for (int log : new int[] {-1, 4, 7, 8, Due.LEAST, Due.MOST}) {
            Due.refuses("copy(4, " + log + ", false)", x -> x.copy(4, log, false), Due.UNKNOWN);
            Due.refuses("copy(4, " + log + ", true)", x -> x.copy(4, log, true), Due.UNKNOWN);
        }
        Due.passes("copy(7, 3, false)", x -> x.copy(7, 3, false), 16);
        Due.passes("copy(4, 0, true)", x -> x.copy(4, 0, true), 3);
    }

    private static void copyFromMissing() {
        Due.fails("from missing to 3 places", x -> x.copy(6, 0, false), Due.MISSING);
        Due.fails("from missing to none", x -> x.copy(6, 1, false), Due.MISSING);
        Due.fails("from missing to missing", x -> x.copy(6, 2, false), Due.MISSING);
        Due.fails("back from missing to 3 places", x -> x.copy(4, 2, true), Due.MISSING);
        Due.fails("back from missing to none", x -> x.copy(5, 2, true), Due.MISSING);
        Due.fails("back from missing to missing", x -> x.copy(6, 2, true), Due.MISSING);
    }

    private static void copyToMissing() {
        Due.fails("to missing", x -> x.copy(4, 2, false), Due.MISSING);
        Due.fails("back to missing", x -> x.copy(6, 0, true), Due.MISSING);
        Due.passes("of no places to missing", x -> x.copy(5, 2, false), 0);
        Due.passes("of no places back to missing", x -> x.copy(6, 1, true), 0);
        RopeDrums x = Due.filled();
        x.copy(5, 2, false);
        Due.is("the other one is still missing", x.read(2, 0, 0), Due.MISSING);
        Due.is("of one place to missing", logged(4, 1.0).copy(4, 2, false), Due.MISSING);
        Due.is("of one place back to missing", logged(3, 1.0).copy(6, 3, true), Due.MISSING);
    }

    private static void wholeTurned() {
        double[] marks = {1.9, -1.9, -0.0, 1e19, -1e19, Due.ENDLESS, -Due.ENDLESS, 16777217.0};
        long[] ofDoubles = {1, -1, 0, Long.MAX_VALUE, Long.MIN_VALUE, Long.MAX_VALUE, Long.MIN_VALUE, 16777217};
        RopeDrums x = logged(4, marks);
        RopeDrums y = logged(3, marks);
        for (int i = 0; i < marks.length; i++) {
            Due.is("whole(4, " + i + ")", x.whole(4, i), ofDoubles[i]);
            Due.is("whole(3, " + i + ")", y.whole(3, i), i == 7 ? 16777216 : ofDoubles[i]);
        }
        Due.passes("whole(4, 1)", z -> z.whole(4, 1), 0);
        Due.passes("whole(0, 2)", z -> z.whole(0, 2), Long.MAX_VALUE);
    }

    private static void wholeUnknown() {
        for (int log : NO_LOGS) Due.refuses("whole(" + log + ", 0)", x -> x.whole(log, 0), 0);
    }

    private static void wholeFails() {
        for (int log = 0; log < 8; log += 4) {
            int of = log;
            for (int i : new int[] {3, -1, Due.LEAST, Due.MOST}) {
                Due.failsSilently("whole(" + log + ", " + i + ")", x -> x.whole(of, i), Due.PLACE, 0);
                Due.failsSilently("whole of a missing log", x -> x.whole(of + 2, i), Due.MISSING, 0);
            }
            Due.failsSilently("whole of an empty log", x -> x.whole(of + 1, 0), Due.PLACE, 0);
            Due.failsSilently("whole of no 16th place", x -> x.whole(of + 3, 16), Due.PLACE, 0);
        }
    }

    // Promises 17 to 21

    private static void spoolOutside() {
        for (int w : new int[] {-1, 100001, Due.LEAST, Due.MOST}) {
            Due.refuses("spool(" + w + ", false)", x -> x.spool(w, false), Due.OUTSIDE);
            Due.refuses("spool(" + w + ", true)", x -> x.spool(w, true), Due.OUTSIDE);
        }
        RopeDrums x = new RopeDrums();
        Due.is("spool(0, false)", x.spool(0, false), 0);
        Due.is("spool(100000, true)", x.spool(100000, true), 1);
        Due.is("spool(-1, true)", x.spool(-1, true), Due.OUTSIDE);
        Due.is("spool(1, true)", x.spool(1, true), 2);
    }

    private static void spoolFull() {
        RopeDrums x = new RopeDrums();
        for (int n = 0; n <= 28; n++) x.spool(n, false);
        Due.is("spool 29", x.spool(5, true), 29);
        for (int n = 0; n < 3; n++) Due.is("spool 30", x.spool(5, true), Due.FULL);
        Due.is("OUTSIDE is told ahead of FULL", x.spool(100001, true), Due.OUTSIDE);
        Due.is("count(0)", x.count(0), 30);
        Due.is("failed()", x.failed(), 0);
    }

    private static void rackIsNew() {
        RopeDrums x = Due.filled();
        Due.is("rack(0, false, 12)", x.rack(0, false, 12), 1);
        for (int i = 0; i < 12; i++) Due.is("at(0, " + i + ")", x.at(0, i), Due.NONE);
        Due.is("at(0, 12)", x.at(0, 12), Due.PLACE);
        for (int i = 0; i < 12; i++) Due.is("put(0, " + i + ", 3)", x.put(0, i, 3), 1);
        Due.is("rack(0, false, 1)", x.rack(0, false, 1), 1);
        Due.is("at(0, 0)", x.at(0, 0), Due.NONE);
        Due.is("at(0, 1)", x.at(0, 1), Due.PLACE);
        Due.is("rack(0, false, 12)", x.rack(0, false, 12), 1);
        for (int i = 0; i < 12; i++) Due.is("at(0, " + i + ")", x.at(0, i), Due.NONE);
        Due.is("at(1, 0) of another", x.at(1, 0), 1);
    }

    private static void rackChanges() {
        RopeDrums x = Due.filled();
        x.rack(0, true, 1);
        Due.is("put(0, 0, 0)", x.put(0, 0, 0), Due.MISFIT);
        x.rack(0, false, 1);
        Due.is("put(0, 0, 0)", x.put(0, 0, 0), 1);
        x.rack(0, true, Due.NONE);
        x.rack(0, false, 1);
        Due.is("put(0, 0, 3)", x.put(0, 0, 3), 1);
    }

    private static void rackOfNone() {
        for (int rack = 0; rack <= 4; rack++) {
            RopeDrums x = Due.filled();
            Due.is("rack(" + rack + ", true, 0)", x.rack(rack, true, 0), 1);
            Due.is("at(" + rack + ", 0)", x.at(rack, 0), Due.PLACE);
            Due.is("put of no reel", x.put(rack, 0, 0), Due.PLACE);
            Due.is("rack(" + rack + ", false, NONE)", x.rack(rack, false, Due.NONE), 1);
            Due.is("at(" + rack + ", 0)", x.at(rack, 0), Due.MISSING);
            Due.is("rack(" + rack + ", true, NONE)", x.rack(rack, true, Due.NONE), 1);
            Due.is("put of no reel", x.put(rack, 0, 0), Due.MISSING);
        }
    }

    private static void rackUnknown() {
        for (int rack : NO_RACKS) {
            for (int n : new int[] {Due.NONE, 0, 12}) {
                Due.refuses("rack(" + rack + ", false, " + n + ")", x -> x.rack(rack, false, n), Due.UNKNOWN);
            }
        }
    }

    private static void rackOutside() {
        for (int n : new int[] {-2, 13, 16, Due.LEAST, Due.MOST}) {
            for (int rack = 0; rack <= 4; rack++) {
                int of = rack;
                Due.refuses("rack(" + rack + ", false, " + n + ")", x -> x.rack(of, false, n), Due.OUTSIDE);
                Due.refuses("rack(" + rack + ", true, " + n + ")", x -> x.rack(of, true, n), Due.OUTSIDE);
            }
        }
    }

    private static void putNothing() {
        RopeDrums x = Due.filled();
        Due.is("put(0, 0, NONE)", x.put(0, 0, Due.NONE), 1);
        Due.is("at(0, 0)", x.at(0, 0), Due.NONE);
        Due.is("put(1, 0, NONE)", x.put(1, 0, Due.NONE), 1);
        Due.is("at(1, 0)", x.at(1, 0), Due.NONE);
        Due.is("put(1, 0, NONE) again", x.put(1, 0, Due.NONE), 1);
        Due.fails("nothing on a missing rack", y -> y.put(3, 0, Due.NONE), Due.MISSING);
        Due.fails("nothing on no place", y -> y.put(1, 2, Due.NONE), Due.PLACE);
        Due.is("put(0, 0, NONE) with no spools", new RopeDrums().put(0, 0, Due.NONE), Due.MISSING);
    }

    private static void putAgain() {
        RopeDrums x = Due.filled();
        Due.is("put(0, 0, 3)", x.put(0, 0, 3), 1);
        Due.is("put(0, 2, 3)", x.put(0, 2, 3), 1);
        Due.is("put(4, 0, 2)", x.put(4, 0, 2), 1);
        Due.is("at(0, 0)", x.at(0, 0), 3);
        Due.is("at(0, 1)", x.at(0, 1), 1);
        Due.is("at(0, 2)", x.at(0, 2), 3);
        Due.is("at(4, 0)", x.at(4, 0), 2);
        Due.is("at(4, 11)", x.at(4, 11), 2);
    }

    private static void putUnknown() {
        for (int rack : NO_RACKS) Due.refuses("put(" + rack + ", 0, 0)", x -> x.put(rack, 0, 0), Due.UNKNOWN);
        for (int spool : new int[] {4, -2, 29, 30, Due.LEAST, Due.MOST}) {
            Due.refuses("put(0, 0, " + spool + ")", x -> x.put(0, 0, spool), Due.UNKNOWN);
        }
        for (int rack : NO_RACKS) Due.refuses("put nothing on " + rack, x -> x.put(rack, 0, -1), Due.UNKNOWN);
    }

    private static void putFails() {
        for (int i : new int[] {3, -1, Due.LEAST, Due.MOST}) {
            Due.fails("put(0, " + i + ", 1)", x -> x.put(0, i, 1), Due.PLACE);
            Due.fails("put(3, " + i + ", 1)", x -> x.put(3, i, 1), Due.MISSING);
            Due.fails("PLACE ahead of MISFIT", x -> x.put(1, i, 0), Due.PLACE);
        }
        Due.fails("put(2, 0, 0)", x -> x.put(2, 0, 0), Due.PLACE);
        Due.fails("put(4, 12, 1)", x -> x.put(4, 12, 1), Due.PLACE);
        Due.passes("put(4, 11, 1)", x -> x.put(4, 11, 1), 1);
        Due.passes("put(0, 2, 1)", x -> x.put(0, 2, 1), 1);
        RopeDrums x = Due.filled();
        x.rack(1, true, Due.NONE);
        Due.is("MISSING ahead of MISFIT", x.put(1, 0, 0), Due.MISSING);
    }

    private static void putMisfit() {
        Due.fails("put(1, 0, 0)", x -> x.put(1, 0, 0), Due.MISFIT);
        Due.fails("put(1, 1, 3)", x -> x.put(1, 1, 3), Due.MISFIT);
        Due.fails("put(4, 11, 0)", x -> x.put(4, 11, 0), Due.MISFIT);
        Due.passes("a reel for reels alone", x -> x.put(1, 0, 2), 1);
        Due.passes("a reel for all", x -> x.put(0, 0, 2), 1);
        Due.passes("no reel for all", x -> x.put(0, 0, 3), 1);
        Due.passes("nothing for reels alone", x -> x.put(1, 0, Due.NONE), 1);
    }

    private static void atNone() {
        Due.passes("at(0, 0)", x -> x.at(0, 0), 0);
        Due.passes("at(0, 2)", x -> x.at(0, 2), Due.NONE);
        Due.passes("at(1, 1)", x -> x.at(1, 1), Due.NONE);
        Due.passes("at(4, 11)", x -> x.at(4, 11), 2);
    }

    private static void atUnknown() {
        for (int rack : NO_RACKS) Due.refuses("at(" + rack + ", 0)", x -> x.at(rack, 0), Due.UNKNOWN);
    }

    private static void atFails() {
        for (int i : new int[] {3, -1, Due.LEAST, Due.MOST}) {
            Due.fails("at(0, " + i + ")", x -> x.at(0, i), Due.PLACE);
            Due.fails("at(3, " + i + ")", x -> x.at(3, i), Due.MISSING);
        }
        Due.fails("at(1, 2)", x -> x.at(1, 2), Due.PLACE);
        Due.fails("at(2, 0)", x -> x.at(2, 0), Due.PLACE);
        Due.fails("at(4, 12)", x -> x.at(4, 12), Due.PLACE);
    }

    private static void weightTwice() {
        Due.passes("weight(0, 1, true)", x -> x.weight(0, 1, true), 13);
        Due.passes("weight(0, 1, false)", x -> x.weight(0, 1, false), 6);
        Due.passes("weight(4, 11, true)", x -> x.weight(4, 11, true), 200001);
        Due.passes("weight(4, 11, false)", x -> x.weight(4, 11, false), 100000);
        Due.passes("weight(0, 0, false)", x -> x.weight(0, 0, false), 5);
        RopeDrums x = new RopeDrums();
        x.spool(0, true);
        x.rack(0, false, 1);
        x.put(0, 0, 0);
        Due.is("weight of 0", x.weight(0, 0, false), 0);
        Due.is("weight of 0 as a reel", x.weight(0, 0, true), 1);
    }

    private static void weightUnknown() {
        for (int rack : NO_RACKS) {
            Due.refuses("weight(" + rack + ", 0, false)", x -> x.weight(rack, 0, false), Due.UNKNOWN);
            Due.refuses("weight(" + rack + ", 0, true)", x -> x.weight(rack, 0, true), Due.UNKNOWN);
        }
    }

    private static void weightFails() {
        for (int i : new int[] {3, -1, Due.LEAST, Due.MOST}) {
            Due.fails("weight(0, " + i + ", false)", x -> x.weight(0, i, false), Due.PLACE);
            Due.fails("weight(0, " + i + ", true)", x -> x.weight(0, i, true), Due.PLACE);
            Due.fails("weight(3, " + i + ", true)", x -> x.weight(3, i, true), Due.MISSING);
        }
        Due.fails("weight(2, 0, false)", x -> x.weight(2, 0, false), Due.PLACE);
        Due.fails("weight(4, 12, true)", x -> x.weight(4, 12, true), Due.PLACE);
    }

    private static void weightMisfit() {
        Due.fails("weight(0, 0, true)", x -> x.weight(0, 0, true), Due.MISFIT);
        RopeDrums x = Due.filled();
        x.put(0, 2, 3);
        Due.is("weight(0, 2, true)", x.weight(0, 2, true), Due.MISFIT);
        Due.is("weight(0, 2, false)", x.weight(0, 2, false), 0);
    }

    private static void weightMissing() {
        Due.fails("weight(0, 2, false)", x -> x.weight(0, 2, false), Due.MISSING);
        Due.fails("weight(0, 2, true)", x -> x.weight(0, 2, true), Due.MISSING);
        Due.fails("weight(1, 1, true)", x -> x.weight(1, 1, true), Due.MISSING);
        Due.fails("weight(1, 1, false)", x -> x.weight(1, 1, false), Due.MISSING);
    }

    // Promises 22 and 23

    private static void brakeMissing() {
        for (long grip : new long[] {Due.NO_DOUBLE, -1L, 0, Due.bits(1.0)}) {
            RopeDrums x = Due.filled();
            Due.is("brake(0, 2, " + grip + ")", x.brake(0, 2, grip), 1);
            Due.is("slow(0, 0)", x.slow(0, 0), Due.MISSING);
            Due.is("brake(2, 2, " + grip + ")", x.brake(2, 2, grip), 1);
            Due.is("slow(2, 0)", x.slow(2, 0), Due.MISSING);
        }
    }

    private static void brakeGrips() {
        double[] grips = {0.0, -0.0, Double.MIN_VALUE, -Double.MAX_VALUE, Due.ENDLESS, -Due.ENDLESS};
        for (double grip : grips) {
            RopeDrums x = new RopeDrums();
            Due.is("brake(3, 0, " + grip + ")", x.brake(3, 0, Due.bits(grip)), 1);
            Due.is("brake(3, 1, " + grip + ")", x.brake(3, 1, Due.bits(grip)), 1);
            x.set(0, Due.INTS, 1);
            Due.is("slow(3, 0)", x.slow(3, 0), 1);
            Due.holds(x, 0, Due.DOUBLES, Due.bits((double) (float) (1.0 / grip)));
        }
    }

    private static void brakeUnknown() {
        for (int b : NO_BRAKES) {
            for (int sort = 0; sort <= 2; sort++) {
                int of = sort;
                Due.refuses("brake(" + b + ", " + sort + ")", x -> x.brake(b, of, Due.bits(1.0)), Due.UNKNOWN);
            }
        }
    }

    private static void brakeOutside() {
        for (int sort : Due.notUpTo(2)) {
            Due.refuses("brake(0, " + sort + ")", x -> x.brake(0, sort, Due.bits(1.0)), Due.OUTSIDE);
        }
        for (long no : new long[] {Due.NO_DOUBLE, 0x7ff0000000000001L, 0xfff0000000000001L, -1L}) {
            Due.refuses("brake(0, 0), no number", x -> x.brake(0, 0, no), Due.OUTSIDE);
            Due.refuses("brake(0, 1), no number", x -> x.brake(0, 1, no), Due.OUTSIDE);
            Due.refuses("brake(2, 1), no number", x -> x.brake(2, 1, no), Due.OUTSIDE);
        }
    }

    private static void slowed(int sort, double grip, double v, double told) {
        RopeDrums x = new RopeDrums();
        x.brake(3, sort, Due.bits(grip));
        x.set(9, Due.DOUBLES, Due.bits(v));
        Due.is("slow of " + v + " by " + grip, x.slow(3, 9), 1);
        Due.holds(x, 9, Due.DOUBLES, Due.bits(told));
        Due.is("failed()", x.failed(), 0);
    }

    private static void slowByPad() {
        slowed(0, 2.0, 5.5, 1.5);
        slowed(0, -2.0, -5.5, -1.5);
        slowed(0, 2.0, -6.0, -0.0);
        slowed(0, 0.1, 0.3, 0.09999999999999998);
        slowed(0, Due.ENDLESS, -3.5, -3.5);
        slowed(0, -Due.ENDLESS, 0.1, 0.1);
        slowed(0, 2.0, -0.0, -0.0);
        slowed(0, 0x3p-1074, 0x1p1023, 0x2p-1074);
    }

    private static void slowByDrag() {
        slowed(1, 3.0, 1.0, 0.3333333432674408);
        slowed(1, 1.0, 16777217.0, 16777216.0);
        slowed(1, 1e-30, 1e30, Due.ENDLESS);
        slowed(1, -1e-300, 1e300, -Due.ENDLESS);
        slowed(1, -1e30, 1e-30, -0.0);
        slowed(1, 0.0, 1.0, Due.ENDLESS);
        slowed(1, -0.0, 1.0, -Due.ENDLESS);
        slowed(1, Due.ENDLESS, 1.0, 0.0);
        slowed(1, 2.0, -Due.ENDLESS, -Due.ENDLESS);
        slowed(1, -0.0, Due.ENDLESS, -Due.ENDLESS);
    }

    private static void slowTurned() {
        long[] bits = {7, 9007199254740993L, Due.bits(7.5f), Due.bits(7.25)};
        double[] due = {1.0, 0.0, 1.5, 1.25};
        for (int lane = 0; lane <= 3; lane++) {
            RopeDrums x = new RopeDrums();
            x.brake(0, 0, Due.bits(2.0));
            x.set(5, lane, bits[lane]);
            Due.is("slow(0, 5)", x.slow(0, 5), 1);
            Due.holds(x, 5, Due.DOUBLES, Due.bits(due[lane]));
        }
    }

    private static void slowUnknown() {
        for (int b : NO_BRAKES) Due.refuses("slow(" + b + ", 0)", x -> x.slow(b, 0), Due.UNKNOWN);
        for (int m : NO_METERS) Due.refuses("slow(0, " + m + ")", x -> x.slow(0, m), Due.UNKNOWN);
    }

    private static void slowVoid(int sort, double grip, double v) {
        RopeDrums x = new RopeDrums();
        x.brake(3, sort, Due.bits(grip));
        x.set(9, Due.DOUBLES, Due.bits(v));
        Due.is("slow of " + v + " by " + grip, x.slow(3, 9), Due.VOID);
        Due.holds(x, 9, Due.DOUBLES, Due.bits(v));
        Due.is("failed()", x.failed(), 5);
    }

    private static void slowFails() {
        for (int m = 0; m <= 9; m++) {
            int meter = m;
            Due.fails("slow(2, " + m + ")", x -> x.slow(2, meter), Due.MISSING);
            Due.fails("slow(3, " + m + ")", x -> x.slow(3, meter), Due.VOID);
        }
        double e = Due.ENDLESS;
        for (double grip : new double[] {2.0, 0.0, e, -e}) {
            slowVoid(0, grip, e);
            slowVoid(0, grip, -e);
        }
        slowVoid(0, 0.0, 1.0);
        slowVoid(0, -0.0, 1.0);
        slowVoid(1, 0.0, 0.0);
        slowVoid(1, -0.0, 0.0);
        slowVoid(1, e, e);
        slowVoid(1, -e, e);
        slowVoid(1, e, -e);
    }

    // Promises 24 and 25

    private static void failedIsLatest() {
        RopeDrums x = Due.filled();
        Due.is("failed()", x.failed(), 4);
        Due.is("failed() again", x.failed(), 4);
        x.at(3, 0);
        Due.is("failed() by MISSING", x.failed(), 1);
        x.at(0, 3);
        Due.is("failed() by PLACE", x.failed(), 2);
        x.put(1, 0, 0);
        Due.is("failed() by MISFIT", x.failed(), 3);
        x.reckon(4, 0, 6, 0);
        Due.is("failed() by ZERO", x.failed(), 4);
        x.rest(0, 0, 1);
        Due.is("failed() by VOID", x.failed(), 5);
    }

    private static void failedSkips() {
        RopeDrums x = Due.filled();
        x.set(0, 0, 1);
        x.bits(0);
        x.lane(0);
        x.turn(0, 3);
        x.compare(0, 1);
        x.drum(0, Due.bits(1.0));
        x.told(0, 0);
        x.log(0, 1);
        x.spool(1, true);
        x.rack(0, true, 1);
        x.brake(0, 0, Due.bits(1.0));
        x.count(4);
        Due.is("failed()", x.failed(), 4);
    }

    private static void failedNotRefused() {
        RopeDrums x = Due.filled();
        x.reckon(0, 10, 0, 0);
        x.reckon(5, 0, 0, 0);
        x.wind(6, 0);
        x.write(8, 0, 0);
        x.read(8, 0, 0);
        x.rest(8, 0, 0);
        x.copy(3, 0, false);
        x.whole(8, 0);
        x.put(5, 0, 0);
        x.put(0, 0, 4);
        x.at(5, 0);
        x.weight(5, 0, false);
        x.slow(4, 0);
        Due.is("failed()", x.failed(), 4);
    }

    private static void failedNot() {
        Due.is("failed() of a new object", new RopeDrums().failed(), 0);
        Due.passes("reckon of ints", x -> x.reckon(0, 0, 0, 0), Due.INTS);
        Due.passes("reckon of doubles", x -> x.reckon(0, 3, 3, 0), Due.DOUBLES);
        Due.passes("wind", x -> x.wind(0, 0), 1);
        Due.passes("write", x -> x.write(0, 0, 0), 1);
        Due.passes("read", x -> x.read(0, 0, 0), Due.FLOATS);
        Due.passes("rest", x -> x.rest(0, 0, 0), 1);
        Due.passes("copy", x -> x.copy(4, 0, false), 3);
        Due.passes("whole", x -> x.whole(0, 0), 2);
        Due.passes("put", x -> x.put(0, 0, 0), 1);
        Due.passes("at", x -> x.at(0, 0), 0);
        Due.passes("weight", x -> x.weight(0, 0, false), 5);
        Due.passes("slow", x -> x.slow(0, 0), 1);
    }

    private static void countFailures() {
        RopeDrums x = Due.filled();
        int[] due = {4, 1, 2, 3, 4, 5};
        for (int what = 0; what <= 5; what++) Due.is("count(" + what + ")", x.count(what), due[what]);
        x.weight(0, 2, true);
        x.whole(4, 3);
        x.weight(0, 0, true);
        x.reckon(3, 1, 7, 1);
        x.slow(3, 3);
        for (int what = 1; what <= 5; what++) Due.is("count(" + what + ")", x.count(what), due[what] + 1);
    }

    private static void countCopy() {
        RopeDrums x = Due.filled();
        Due.is("copy(7, 0, false)", x.copy(7, 0, false), 3);
        Due.is("count(2)", x.count(2), 3);
        Due.is("copy(4, 3, true)", x.copy(4, 3, true), 3);
        Due.is("count(2)", x.count(2), 4);
        Due.is("copy(4, 0, false)", x.copy(4, 0, false), 3);
        Due.is("count(2)", x.count(2), 4);
    }

    private static void countSpools() {
        RopeDrums x = new RopeDrums();
        for (int n = 0; n < 40; n++) {
            Due.is("count(0)", x.count(0), Math.min(n, 30));
            x.spool(n, n % 3 == 0);
        }
        x.spool(-1, false);
        Due.is("count(0)", x.count(0), 30);
    }

    private static void countOutside() {
        for (int what : Due.notUpTo(5)) Due.refuses("count(" + what + ")", x -> x.count(what), Due.OUTSIDE);
    }

    private static void manyCalls() {
        RopeDrums x = new RopeDrums();
        for (int n = 1; n <= 511; n++) x.read(n % 8, n, 0);
        Due.is("count(1)", x.count(1), 511);
    }
}
