import java.util.ArrayList;
import java.util.Arrays;
import java.util.List;
import java.util.Random;

/**
 * Runs of calls, made from fixed seeds, on the class and on a model of the document that uses what the class may not:
 * boxed numbers, Java's own remainder and bits, rows of floats and of doubles.
 */
public final class ModelTest {
    private static final int RUNS = 3000, CALLS = 512, LEFTS = 300000;

    public static void main(String[] args) {
        for (int run = 0; run < RUNS; run++) {
            if (!runAgrees(run)) System.exit(1);
        }
        if (!numbersAgree()) System.exit(1);
        System.out.println(RUNS + " runs agree with the model");
    }

    private static boolean runAgrees(int seed) {
        Random random = new Random(seed);
        RopeDrums drums = new RopeDrums();
        Model model = new Model();
        StringBuilder calls = new StringBuilder();
        for (int n = 0; n < CALLS; n++) {
            Call call = Call.random(random);
            calls.append(call).append('\n');
            long got = call.on(drums);
            long want = call.on(model);
            if (got != want) {
                System.out.println(calls + "run " + seed + " answered " + got + ", due is " + want);
                return false;
            }
        }
        return true;
    }

    /** Single numbers, of any bits: taken, told, and what is left. */
    private static boolean numbersAgree() {
        Random random = new Random(77);
        RopeDrums drums = new RopeDrums();
        Model model = new Model();
        for (int n = 0; n < LEFTS; n++) {
            int lane = 2 + random.nextInt(2);
            long x = random.nextLong();
            long y = random.nextInt(3) == 0 ? x ^ (random.nextLong() >>> random.nextInt(64)) : random.nextLong();
            boolean alike = drums.set(0, lane, x) == model.set(0, lane, x)
                && drums.set(1, lane, y) == model.set(1, lane, y)
                && drums.bits(0) == model.bits(0) && drums.bits(1) == model.bits(1)
                && drums.reckon(4, 0, 1, 2) == model.reckon(4, 0, 1, 2) && drums.bits(2) == model.bits(2);
            if (!alike) {
                System.out.println("lane " + lane + ", bits " + x + ", " + y + " are not as due");
                return false;
            }
        }
        return true;
    }

    /** A call by its name and arguments. */
    private static final class Call {
        private static final String[] NAMES = {"set", "bits", "lane", "turn", "reckon", "compare", "drum", "wind",
            "told", "log", "write", "read", "rest", "copy", "whole", "spool", "rack", "put", "at", "weight", "brake",
            "slow", "failed", "count", "set", "reckon", "bits", "wind", "told", "write", "put", "turn"};
        private static final double[] DOUBLES = {0.0, -0.0, 1.0, -1.0, 0.1, 0.125, 0.3, -2.5, 7.0, 1e6, 16777217.0,
            2147483647.5, -2147483649.0, 9.3e18, -9.3e18, 1e39, 3.4028235677973366E38, 3.4028235677973362E38, 1e-45,
            1e-46, 7e-46, 1e-320, -3e-310, 2.2250738585072014E-308, Double.MIN_VALUE, Double.MAX_VALUE, 1e308, -1e300,
            Double.POSITIVE_INFINITY, Double.NEGATIVE_INFINITY, Double.NaN, 1000000.0000000001, 0.12499999999999999};
        private static final long[] WHOLES = {0, 1, -1, 2, 3, -7, 10, 16777217, 33554435, 2147483647, -2147483648L,
            2147483648L, 4294967299L, 9007199254740993L, 0x4000004000000001L, Long.MAX_VALUE, Long.MIN_VALUE};

        private final String name;
        private final int[] n = new int[4];
        private final long number;
        private final boolean flag;

        private Call(String name, long number, boolean flag) {
            this.name = name;
            this.number = number;
            this.flag = flag;
        }

        static Call random(Random random) {
            String name = NAMES[random.nextInt(NAMES.length)];
            int lane = small(random, 4);
            boolean real = name.equals("drum") || name.equals("brake");
            Call call = new Call(name, number(random, real ? 3 : lane), random.nextBoolean());
            int[] tops = tops(name);
            for (int k = 0; k < tops.length; k++) call.n[k] = small(random, tops[k]);
            if (name.equals("set")) call.n[1] = lane;
            if (name.equals("spool")) call.n[0] = weight(random);
            if (name.equals("copy")) call.n[0] += 4;
            return call;
        }

        /** How many good values each argument has, from 0 on (rows: from NONE on). */
        private static int[] tops(String name) {
            switch (name) {
                case "set": case "turn": return new int[] {10, 4};
                case "bits": case "lane": return new int[] {10};
                case "reckon": return new int[] {5, 10, 10, 10};
                case "compare": return new int[] {10, 10};
                case "drum": return new int[] {6};
                case "wind": return new int[] {6, 10};
                case "told": return new int[] {6, 4};
                case "log": return new int[] {8, 17};
                case "write": case "read": return new int[] {8, 6, 10};
                case "rest": return new int[] {8, 6, 6};
                case "copy": return new int[] {4, 4};
                case "whole": return new int[] {8, 6};
                case "rack": return new int[] {5, 13};
                case "put": return new int[] {5, 5, 9};
                case "at": case "weight": return new int[] {5, 5};
                case "brake": return new int[] {4, 3};
                case "slow": return new int[] {4, 10};
                case "count": return new int[] {6};
                default: return new int[0];
            }
        }

        private static int small(Random random, int top) {
            int kind = random.nextInt(60);
            if (kind == 0) return -1;
            if (kind == 1) return top;
            if (kind == 2) return random.nextInt();
            if (kind == 3) return -2;
            return random.nextInt(top);
        }

        private static int weight(Random random) {
            int[] edges = {-1, 0, 100000, 100001};
            return random.nextInt(4) == 0 ? edges[random.nextInt(4)] : random.nextInt(100000);
        }

        private static long number(Random random, int lane) {
            int kind = random.nextInt(8);
            if (kind == 0) return random.nextLong();
            if (kind == 1) return random.nextInt();
            if (lane < 2) return kind == 2 ? random.nextInt(20) - 10 : WHOLES[random.nextInt(WHOLES.length)];
            double v = kind == 2 ? random.nextInt(4000) / 16.0 - 100.0 : DOUBLES[random.nextInt(DOUBLES.length)];
            return lane == 2 ? Float.floatToRawIntBits((float) v) : Double.doubleToRawLongBits(v);
        }

        long on(RopeDrums x) {
            switch (name) {
                case "set": return x.set(n[0], n[1], number);
                case "bits": return x.bits(n[0]);
                case "lane": return x.lane(n[0]);
                case "turn": return x.turn(n[0], n[1]);
                case "reckon": return x.reckon(n[0], n[1], n[2], n[3]);
                case "compare": return x.compare(n[0], n[1]);
                case "drum": return x.drum(n[0], number);
                case "wind": return x.wind(n[0], n[1]);
                case "told": return x.told(n[0], n[1]);
                case "log": return x.log(n[0], n[1]);
                case "write": return x.write(n[0], n[1], n[2]);
                case "read": return x.read(n[0], n[1], n[2]);
                case "rest": return x.rest(n[0], n[1], n[2]);
                case "copy": return x.copy(n[0], n[1], flag);
                case "whole": return x.whole(n[0], n[1]);
                case "spool": return x.spool(n[0], flag);
                case "rack": return x.rack(n[0], flag, n[1]);
                case "put": return x.put(n[0], n[1], n[2]);
                case "at": return x.at(n[0], n[1]);
                case "weight": return x.weight(n[0], n[1], flag);
                case "brake": return x.brake(n[0], n[1], number);
                case "slow": return x.slow(n[0], n[1]);
                case "failed": return x.failed();
                default: return x.count(n[0]);
            }
        }

        long on(Model x) {
            switch (name) {
                case "set": return x.set(n[0], n[1], number);
                case "bits": return x.bits(n[0]);
                case "lane": return x.lane(n[0]);
                case "turn": return x.turn(n[0], n[1]);
                case "reckon": return x.reckon(n[0], n[1], n[2], n[3]);
                case "compare": return x.compare(n[0], n[1]);
                case "drum": return x.drum(n[0], number);
                case "wind": return x.wind(n[0], n[1]);
                case "told": return x.told(n[0], n[1]);
                case "log": return x.log(n[0], n[1]);
                case "write": return x.write(n[0], n[1], n[2]);
                case "read": return x.read(n[0], n[1], n[2]);
                case "rest": return x.rest(n[0], n[1], n[2]);
                case "copy": return x.copy(n[0], n[1], flag);
                case "whole": return x.whole(n[0], n[1]);
                case "spool": return x.spool(n[0], flag);
                case "rack": return x.rack(n[0], flag, n[1]);
                case "put": return x.put(n[0], n[1], n[2]);
                case "at": return x.at(n[0], n[1]);
                case "weight": return x.weight(n[0], n[1], flag);
                case "brake": return x.brake(n[0], n[1], number);
                case "slow": return x.slow(n[0], n[1]);
                case "failed": return x.latest;
                default: return x.count(n[0]);
            }
        }

        @Override
        public String toString() {
            return name + Arrays.toString(n) + " " + number + " " + flag;
        }
    }

    /** A call that fails ends by this. */
    private static final class Failure extends Exception {
        private static final long serialVersionUID = 1L;
        final int kind;

        Failure(int kind) {
            this.kind = kind;
        }
    }

    private interface Work {
        long done() throws Failure;
    }

    private static class Spool {
        final int number, weight;

        Spool(int number, int weight) {
            this.number = number;
            this.weight = weight;
        }

        int told() {
            return weight;
        }
    }

    private static final class Reel extends Spool {
        Reel(int number, int weight) {
            super(number, weight);
        }

        int twice() {
            return 2 * weight + 1;
        }
    }

    private static final class Model {
        private static final int UNKNOWN = -1001, OUTSIDE = -1002, FULL = -1003;

        private final Number[] meters = new Number[10];
        private final double[] around = new double[6], at = new double[6], rope = new double[6];
        private final long[] turns = new long[6];
        private final float[][] floats = new float[4][];
        private final double[][] doubles = new double[4][];
        private final List<Spool> spools = new ArrayList<>();
        private final Spool[][] racks = new Spool[5][];
        private final boolean[] reelsAlone = new boolean[5];
        private final int[] sorts = {2, 2, 2, 2};
        private final double[] grips = new double[4];
        private final int[] counts = new int[6];
        int latest = 0;

        Model() {
            Arrays.fill(meters, 0);
            Arrays.fill(around, 1.0);
        }

        private static boolean in(int n, int size) {
            return 0 <= n && n < size;
        }

        private long tried(Work work) {
            try {
                long answer = work.done();
                latest = 0;
                return answer;
            } catch (Failure failure) {
                latest = failure.kind;
                counts[failure.kind]++;
                return -10 - failure.kind;
            }
        }

        private static int laneOf(Number v) {
            return v instanceof Integer ? 0 : v instanceof Long ? 1 : v instanceof Float ? 2 : 3;
        }

        private static Number turned(Number v, int lane) {
            switch (lane) {
                case 0: return v.intValue();
                case 1: return v.longValue();
                case 2: return v.floatValue();
                default: return v.doubleValue();
            }
        }

        private static double number(double v) throws Failure {
            if (Double.isNaN(v)) throw new Failure(5);
            return v;
        }

        private static float number(float v) throws Failure {
            if (Float.isNaN(v)) throw new Failure(5);
            return v;
        }

        long set(int meter, int lane, long bits) {
            if (!in(meter, 10)) return UNKNOWN;
            if (!in(lane, 4)) return OUTSIDE;
            Number v = lane == 0 ? (Number) (int) bits : lane == 1 ? (Number) bits
                : lane == 2 ? (Number) Float.intBitsToFloat((int) bits) : (Number) Double.longBitsToDouble(bits);
            if (Double.isNaN(v.doubleValue())) return OUTSIDE;
            meters[meter] = v;
            return 1;
        }

        long bits(int meter) {
            if (!in(meter, 10)) return UNKNOWN;
            Number v = meters[meter];
            if (v instanceof Float) return Float.floatToRawIntBits((Float) v);
            return v instanceof Double ? Double.doubleToRawLongBits((Double) v) : v.longValue();
        }

        long lane(int meter) {
            return in(meter, 10) ? laneOf(meters[meter]) : UNKNOWN;
        }

        long turn(int meter, int lane) {
            if (!in(meter, 10)) return UNKNOWN;
            if (!in(lane, 4)) return OUTSIDE;
            meters[meter] = turned(meters[meter], lane);
            return 1;
        }

        long reckon(int act, int x, int y, int into) {
            if (!in(x, 10) || !in(y, 10) || !in(into, 10)) return UNKNOWN;
            if (!in(act, 5)) return OUTSIDE;
            return tried(() -> {
                meters[into] = outcome(act, meters[x], meters[y]);
                return laneOf(meters[into]);
            });
        }

        private static Number outcome(int act, Number x, Number y) throws Failure {
            switch (Math.max(laneOf(x), laneOf(y))) {
                case 0: return ofInts(act, x.intValue(), y.intValue());
                case 1: return ofLongs(act, x.longValue(), y.longValue());
                case 2: return ofFloats(act, x.floatValue(), y.floatValue());
                default: return ofDoubles(act, x.doubleValue(), y.doubleValue());
            }
        }

        private static int ofInts(int act, int x, int y) throws Failure {
            if (act > 2 && y == 0) throw new Failure(4);
            return act == 0 ? x + y : act == 1 ? x - y : act == 2 ? x * y : act == 3 ? x / y : x % y;
        }

        private static long ofLongs(int act, long x, long y) throws Failure {
            if (act > 2 && y == 0) throw new Failure(4);
            return act == 0 ? x + y : act == 1 ? x - y : act == 2 ? x * y : act == 3 ? x / y : x % y;
        }

        private static float ofFloats(int act, float x, float y) throws Failure {
            return number(act == 0 ? x + y : act == 1 ? x - y : act == 2 ? x * y : act == 3 ? x / y : x % y);
        }

        private static double ofDoubles(int act, double x, double y) throws Failure {
            return number(act == 0 ? x + y : act == 1 ? x - y : act == 2 ? x * y : act == 3 ? x / y : x % y);
        }

        long compare(int x, int y) {
            if (!in(x, 10) || !in(y, 10)) return UNKNOWN;
            int lane = Math.max(laneOf(meters[x]), laneOf(meters[y]));
            Number a = turned(meters[x], lane), b = turned(meters[y], lane);
            if (lane < 2) return Long.signum(Long.compare(a.longValue(), b.longValue()));
            return a.doubleValue() == b.doubleValue() ? 0 : Double.compare(a.doubleValue(), b.doubleValue());
        }

        long drum(int drum, long bits) {
            if (!in(drum, 6)) return UNKNOWN;
            double v = Double.longBitsToDouble(bits);
            if (!(v >= 0.125 && v <= 1000000.0)) return OUTSIDE;
            around[drum] = v;
            at[drum] = 0.0;
            rope[drum] = 0.0;
            turns[drum] = 0;
            return 1;
        }

        long wind(int drum, int meter) {
            if (!in(drum, 6) || !in(meter, 10)) return UNKNOWN;
            return tried(() -> {
                double v = meters[meter].doubleValue();
                if (Double.isInfinite(v)) throw new Failure(5);
                double s = at[drum] + v;
                turns[drum] += (long) (s / around[drum]);
                at[drum] = number(s % around[drum]);
                rope[drum] = number(rope[drum] + v);
                return 1;
            });
        }

        long told(int drum, int what) {
            if (!in(drum, 6)) return UNKNOWN;
            if (!in(what, 4)) return OUTSIDE;
            if (what == 3) return turns[drum];
            return Double.doubleToRawLongBits((what == 0 ? around : what == 1 ? at : rope)[drum]);
        }

        long log(int log, int n) {
            if (!in(log, 8)) return UNKNOWN;
            if (!in(n + 1, 18)) return OUTSIDE;
            if (log < 4) floats[log] = n < 0 ? null : new float[n];
            else doubles[log - 4] = n < 0 ? null : new double[n];
            return 1;
        }

        private int places(int log) throws Failure {
            if ((log < 4 ? floats[log] : doubles[log - 4]) == null) throw new Failure(1);
            return log < 4 ? floats[log].length : doubles[log - 4].length;
        }

        private void seek(int log, int i) throws Failure {
            if (!in(i, places(log))) throw new Failure(2);
        }

        long write(int log, int i, int meter) {
            if (!in(log, 8) || !in(meter, 10)) return UNKNOWN;
            return tried(() -> {
                seek(log, i);
                if (log < 4) floats[log][i] = meters[meter].floatValue();
                else doubles[log - 4][i] = meters[meter].doubleValue();
                return 1;
            });
        }

        long read(int log, int i, int meter) {
            if (!in(log, 8) || !in(meter, 10)) return UNKNOWN;
            return tried(() -> {
                seek(log, i);
                meters[meter] = log < 4 ? (Number) floats[log][i] : (Number) doubles[log - 4][i];
                return log < 4 ? 2 : 3;
            });
        }

        long rest(int log, int i, int k) {
            if (!in(log, 8)) return UNKNOWN;
            return tried(() -> {
                seek(log, i);
                seek(log, k);
                if (log < 4) floats[log][i] = number(floats[log][i] % floats[log][k]);
                else doubles[log - 4][i] = number(doubles[log - 4][i] % doubles[log - 4][k]);
                return 1;
            });
        }

        long copy(int of, int to, boolean back) {
            if (!in(of - 4, 4) || !in(to, 4)) return UNKNOWN;
            int[] came = {0};
            long answer = tried(() -> {
                int due = places(back ? to : of);
                for (int i = 0; i < due; i++) {
                    seek(back ? of : to, i);
                    if (back) doubles[of - 4][i] = floats[to][i];
                    else floats[to][i] = (float) doubles[of - 4][i];
                    came[0]++;
                }
                return due;
            });
            return answer == -12 ? came[0] : answer;
        }

        long whole(int log, int i) {
            if (!in(log, 8)) return 0;
            long[] found = {0};
            tried(() -> {
                seek(log, i);
                found[0] = log < 4 ? (long) floats[log][i] : (long) doubles[log - 4][i];
                return 1;
            });
            return found[0];
        }

        long spool(int weight, boolean reel) {
            if (!in(weight, 100001)) return OUTSIDE;
            int number = spools.size();
            if (number == 30) return FULL;
            spools.add(reel ? new Reel(number, weight) : new Spool(number, weight));
            return number;
        }

        long rack(int rack, boolean reels, int n) {
            if (!in(rack, 5)) return UNKNOWN;
            if (!in(n + 1, 14)) return OUTSIDE;
            racks[rack] = n < 0 ? null : new Spool[n];
            reelsAlone[rack] = reels;
            return 1;
        }

        private void seekSpot(int rack, int i) throws Failure {
            if (racks[rack] == null) throw new Failure(1);
            if (!in(i, racks[rack].length)) throw new Failure(2);
        }

        long put(int rack, int i, int number) {
            if (!in(rack, 5) || !in(number + 1, spools.size() + 1)) return UNKNOWN;
            return tried(() -> {
                seekSpot(rack, i);
                Spool spool = number < 0 ? null : spools.get(number);
                if (reelsAlone[rack] && spool != null && !(spool instanceof Reel)) throw new Failure(3);
                racks[rack][i] = spool;
                return 1;
            });
        }

        long at(int rack, int i) {
            if (!in(rack, 5)) return UNKNOWN;
            return tried(() -> {
                seekSpot(rack, i);
                return racks[rack][i] == null ? -1 : racks[rack][i].number;
            });
        }

        long weight(int rack, int i, boolean reel) {
            if (!in(rack, 5)) return UNKNOWN;
            return tried(() -> {
                seekSpot(rack, i);
                Spool spool = racks[rack][i];
                if (reel && spool != null && !(spool instanceof Reel)) throw new Failure(3);
                if (spool == null) throw new Failure(1);
                return reel ? ((Reel) spool).twice() : spool.told();
            });
        }

        long brake(int brake, int sort, long grip) {
            if (!in(brake, 4)) return UNKNOWN;
            double v = Double.longBitsToDouble(grip);
            if (!in(sort, 3) || (sort < 2 && Double.isNaN(v))) return OUTSIDE;
            sorts[brake] = sort;
            grips[brake] = v;
            return 1;
        }

        long slow(int brake, int meter) {
            if (!in(brake, 4) || !in(meter, 10)) return UNKNOWN;
            return tried(() -> {
                if (sorts[brake] == 2) throw new Failure(1);
                double v = meters[meter].doubleValue();
                double grip = grips[brake];
                meters[meter] = sorts[brake] == 0 ? number(v % grip) : (double) (float) number(v / grip);
                return 1;
            });
        }

        long count(int what) {
            if (!in(what, 6)) return OUTSIDE;
            return what == 0 ? spools.size() : counts[what];
        }
    }
}
