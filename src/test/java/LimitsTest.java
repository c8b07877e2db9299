import java.math.BigInteger;

/** Each limit that the document names: just inside, just outside, and the extreme ints. */
public final class LimitsTest {
    private static final Due due = new Due();
    private static final int MIN = Integer.MIN_VALUE;
    private static final int MAX = Integer.MAX_VALUE;

    /** Seeds with which share 0, with one step, has a value of exactly 0, 1, .. , 9 lowest bits that are 0. */
    private static final int[] SEED_OF_ZEROS = {0, 8, 13, 25, 3, 2, 47, 184, 364, 1178};
    private static final int SEED_OF_VALUE_0 = -993692926;
    private static final int SEED_OF_GREATEST_VALUE = 494593072;

    private static void sharesAre1To40() {
        for (int size = 1; size <= 40; size++) {
            hasSoManyShares(size, size);
        }
        for (int size : new int[] {MIN, MIN + 1, MIN + 40, -65535, -256, -40, -2, -1, 0}) {
            hasSoManyShares(size, 1);
        }
        for (int size : new int[] {41, 42, 100, 255, 256, 257, 65536, 65537, 1 << 30, MAX - 1, MAX}) {
            hasSoManyShares(size, 40);
        }
    }

    private static void hasSoManyShares(int given, int n) {
        DrawShares x = new DrawShares(given);
        String name = "shares " + given + ": ";
        due.is(name + "count", n, () -> x.count(0));
        due.is(name + "share, last", 1, () -> x.share(n - 1, 1, 0, 0));
        due.is(name + "share, behind it", Due.INDEX, () -> x.share(n, 1, 0, 0));
        due.is(name + "fails, last", 0, () -> x.fails(n - 1, 1, 0));
        due.is(name + "fails, behind it", Due.INDEX, () -> x.fails(n, 1, 0));
        due.is(name + "rank 0", 0, () -> x.act(0, 1));
        due.is(name + "last rank", 1, () -> x.act(n, 1));
        due.is(name + "rank behind it", Due.INDEX, () -> x.act(n + 1, 1));
        due.is(name + "stop, last", -1, () -> x.stop(n - 1));
        due.is(name + "stop, behind it", Due.INDEX, () -> x.stop(n));
        due.is(name + "stop, none", n - 1, () -> x.stop(DrawShares.NONE));
        due.is(name + "run", -1, () -> x.run(1, 0));
        due.is(name + "all are joined", n, x::many);
        due.is(name + "all are done", n, () -> x.steps(0));
        due.is(name + "behind all", n, () -> x.came(1));
        due.is(name + "value, last", x.chain(n - 1, 1) >>> 33, () -> x.value(n - 1));
        due.is(name + "value, behind it", Due.INDEX, () -> x.value(n));
        due.is(name + "begun, last", 1, () -> x.begun(n - 1));
        due.is(name + "begun, behind it", Due.INDEX, () -> x.begun(n));
        due.is(name + "chain, last", n - 1, () -> x.chain(n - 1, 0));
        due.is(name + "chain, behind it", Due.INDEX, () -> x.chain(n, 0));
    }

    /** "WORK, 1 .. 30 steps (1 at first), a SEED, any int (0 at first), BITS (0 at first), FAILURES (0 at first)". */
    private static void atFirst() {
        DrawShares x = new DrawShares(40);
        for (int what = 1; what <= 3; what++) {
            int w = what;
            due.is("at first: count " + w, 0, () -> x.count(w));
        }
        due.is("at first: joined", Due.STATE, x::joined);
        // Half of the values are even, so a share with bits would settle.
        due.is("at first: bits", -1, () -> x.run(1, 0));
        due.is("at first: steps", 40, () -> x.steps(0));
        for (int k = 0; k < 40; k++) {
            int i = k;
            due.is("at first: seed of " + i, i, () -> x.chain(i, 0));
            due.is("at first: step 1 of " + i, step(BigInteger.valueOf(i)).longValue(), () -> x.chain(i, 1));
            due.is("at first: step 2 of " + i, Due.INDEX, () -> x.chain(i, 2));
            due.is("at first: work of " + i, 1, () -> x.share(i, 1, 0, 0));
            due.is("at first: failures of " + i, 0, () -> x.fails(i, 1, 0));
            due.is("at first: begun of " + i, 1, () -> x.begun(i));
        }
        due.is("at first: stop", DrawShares.NONE, () -> x.stop(0));
    }

    private static BigInteger step(BigInteger x) {
        return x.multiply(new BigInteger("6364136223846793005")).add(new BigInteger("1442695040888963407"));
    }

    private static void workIs1To30() {
        DrawShares x = new DrawShares(2);
        BigInteger last = BigInteger.valueOf(2654435761L * 9 + 1);
        for (int work = 1; work <= 30; work++) {
            int w = work;
            due.is("work " + w, Math.max(1, w - 1), () -> x.share(1, w, 9, 0));
            last = step(last);
            long want = last.longValue();
            due.is("work " + w + ": its last step", want, () -> x.chain(1, w));
            due.is("work " + w + ": a step behind it", Due.INDEX, () -> x.chain(1, w + 1));
            due.is("work " + w + ": run", -1, () -> x.run(1, 0));
            due.is("work " + w + ": steps", w + 1, () -> x.steps(0));
            due.is("work " + w + ": value", want >>> 33, () -> x.value(1));
        }
        for (int work : new int[] {MIN, MIN + 1, -30, -1, 0, 31, 32, 257, 65537, MAX}) {
            due.is("work " + work, Due.ARGUMENT, () -> x.share(1, work, 8, 0));
            due.is("work " + work + " leaves it", 2654435761L * 9 + 1, () -> x.chain(1, 0));
        }
        due.is("work stays", 30, () -> x.share(1, 1, 0, 0));
        due.is("work lowered", 1, () -> x.share(1, 30, 0, 0));
    }

    private static void seedIsAnyIntAndChainsAreIn64Bits() {
        DrawShares x = new DrawShares(40);
        for (int seed : new int[] {MIN, MIN + 1, -65536, -2, -1, 0, 1, 2, 65535, MAX - 1, MAX}) {
            for (int k : new int[] {0, 39}) {
                due.is("seed " + seed, 1, () -> x.share(k, 30, seed, 0));
                BigInteger due64 = new BigInteger("2654435761").multiply(BigInteger.valueOf(seed)).add(BigInteger.valueOf(k));
                for (int step = 0; step <= 30; step++) {
                    int s = step;
                    // longValue keeps the lowest 64 bits; none were cut off before.
                    if (s % 6 == 0 || s == 1) {
                        due.is("seed " + seed + " of " + k + " step " + s, due64.longValue(), () -> x.chain(k, s));
                    }
                    due64 = step(due64);
                }
                x.share(k, 1, seed, 0);
            }
        }
    }

    private static void valueIsTheUpper31Bits() {
        DrawShares x = new DrawShares(2);
        x.share(0, 1, SEED_OF_VALUE_0, 0);
        x.run(1, 0);
        due.is("least value: chain", 771157641L, () -> x.chain(0, 1));
        due.is("least value", 0, () -> x.value(0));
        x.share(0, 1, SEED_OF_GREATEST_VALUE, 0);
        x.run(1, 0);
        due.is("greatest value: chain", -796333377L, () -> x.chain(0, 1));
        due.is("greatest value", MAX, () -> x.value(0));
    }

    /** "It SETTLES if its bits are not 0, and so many lowest bits of its value are 0." */
    private static void settlesByItsBits() {
        for (int bits = 0; bits <= 8; bits++) {
            for (int zeros = 0; zeros < SEED_OF_ZEROS.length; zeros++) {
                boolean settles = bits != 0 && zeros >= bits;
                settlesIf(settles, "value with " + zeros + " zeros", SEED_OF_ZEROS[zeros], bits);
            }
            settlesIf(bits != 0, "value 0", SEED_OF_VALUE_0, bits);
            settlesIf(false, "greatest value", SEED_OF_GREATEST_VALUE, bits);
        }
        DrawShares x = new DrawShares(1);
        x.share(0, 1, SEED_OF_VALUE_0, 3);
        for (int bits : new int[] {MIN, -8, -1, 9, 10, 31, 32, 33, 64, 256, 65536, MAX}) {
            due.is("bits " + bits, Due.ARGUMENT, () -> x.share(0, 1, 0, bits));
        }
        due.is("bits stay", 0, () -> x.run(1, 0));
        due.is("bits taken away", 1, () -> x.share(0, 1, SEED_OF_VALUE_0, 0));
        due.is("bits taken away: run", -1, () -> x.run(1, 0));
    }

    private static void settlesIf(boolean settles, String name, int seed, int bits) {
        DrawShares x = new DrawShares(1);
        due.is(name + ", bits " + bits, 1, () -> x.share(0, 1, seed, bits));
        due.is(name + ", bits " + bits + ": run", settles ? 0 : DrawShares.NONE, () -> x.run(1, 0));
        due.is(name + ", bits " + bits + ": joined", 1, x::many);
    }

    private static void failuresAre0To4() {
        DrawShares x = new DrawShares(1);
        for (int times = 0; times <= 4; times++) {
            int t = times;
            due.is("failures " + t, Math.max(0, t - 1), () -> x.fails(0, 1, t));
            due.is("failures " + t + ": as many workers", t == 0 ? Due.ARGUMENT : "-2", () -> x.run(t, 0));
            due.is("failures " + t + ": one worker more", -1, () -> x.run(t + 1, 0));
            due.is("failures " + t + ": begun", t + 1, () -> x.begun(0));
            due.is("failures " + t + ": left", 1, () -> x.steps(1));
        }
        for (int times : new int[] {MIN, MIN + 4, -4, -1, 5, 6, 256, 65536, MAX}) {
            due.is("failures " + times, Due.ARGUMENT, () -> x.fails(0, 1, times));
        }
        due.is("failures stay", 4, () -> x.fails(0, 1, 0));
    }

    /** "a worker that does it is lost at its step 1 .. 30 (or at its last one, if it has less): the steps are done". */
    private static void failsAtAStepOrAtTheLastOne() {
        int[] edges = {1, 2, 15, 29, 30};
        for (int work : edges) {
            for (int step : edges) {
                for (int times = 0; times <= 4; times++) {
                    failsAt(work, step, times);
                }
            }
        }
        DrawShares x = new DrawShares(1);
        x.share(0, 30, 0, 0);
        x.fails(0, 3, 1);
        for (int step : new int[] {MIN, MIN + 1, -30, -1, 0, 31, 32, 257, 65537, MAX}) {
            due.is("step " + step, Due.ARGUMENT, () -> x.fails(0, step, 1));
            due.is("step " + step + ", no times", Due.ARGUMENT, () -> x.fails(0, step, 0));
        }
        due.is("step stays: run", -1, () -> x.run(2, 0));
        due.is("step stays: steps", 33, () -> x.steps(0));
        x.fails(0, 30, 1);
        x.share(0, 2, 0, 0);
        due.is("work lowered: run", -1, () -> x.run(2, 0));
        due.is("work lowered: the last step", 2 + 2, () -> x.steps(0));
        x.share(0, 29, 0, 0);
        due.is("work raised: run", -1, () -> x.run(2, 0));
        due.is("work raised: the last step again", 29 + 29, () -> x.steps(0));
        x.share(0, 30, 0, 0);
        due.is("work raised: run", -1, () -> x.run(2, 0));
        due.is("work raised: the step told", 30 + 30, () -> x.steps(0));
    }

    private static void failsAt(int work, int step, int times) {
        int want = work + times * (step < work ? step : work);
        String name = "work " + work + ", step " + step + ", times " + times + ": ";
        DrawShares x = new DrawShares(1);
        x.share(0, work, 5, 0);
        x.fails(0, step, times);
        due.is(name + "run", -1, () -> x.run(times + 1, 0));
        due.is(name + "steps", want, () -> x.steps(0));
        due.is(name + "value", x.chain(0, work) >>> 33, () -> x.value(0));
        DrawShares y = new DrawShares(1);
        y.fails(0, step, times);
        y.share(0, work, 5, 0);
        due.is(name + "run, fails told first", -1, () -> y.run(times + 1, 0));
        due.is(name + "steps, fails told first", want, () -> y.steps(0));
    }

    private static void actsAreAtMost24() {
        DrawShares x = new DrawShares(40);
        due.is("empty: act 0", Due.INDEX, () -> x.came(0));
        for (int i = 0; i < 24; i++) {
            int number = i;
            due.is("act", number, () -> x.act(number % 2 == 0 ? 40 : number, number));
            due.is("acts", number + 1, () -> x.count(1));
            due.is("an act that is there", Due.STATE, () -> x.came(number));
            due.is("an act that is not", Due.INDEX, () -> x.came(number + 1));
        }
        due.is("full: rank 0", Due.STATE, () -> x.act(0, 1));
        due.is("full: rank 40", Due.STATE, () -> x.act(40, 1));
        due.is("full: no such rank", Due.INDEX, () -> x.act(41, 1));
        due.is("full: rank -1", Due.INDEX, () -> x.act(-1, 1));
        due.is("full: acts", 24, () -> x.count(1));
        due.is("full: run", -1, () -> x.run(1, 0));
        due.is("full: act 22", 40, () -> x.came(22));
        due.is("full: act 23", 23, () -> x.came(23));
        due.is("full: act 24", Due.INDEX, () -> x.came(24));
        due.is("full: act -1", Due.INDEX, () -> x.came(-1));
        due.is("full: still", Due.STATE, () -> x.act(7, 1));
    }

    private static void ranksAre0ToTheShares() {
        for (int n : new int[] {1, 2, 20, 39, 40}) {
            DrawShares x = new DrawShares(n);
            int number = 0;
            for (int rank : new int[] {0, n - 1, n}) {
                int want = number++;
                due.is("rank " + rank + " of " + n, want, () -> x.act(rank, 1));
            }
            for (int rank : new int[] {MIN, MIN + 1, -2, -1, n + 1, n + 2, n + 256, n + 65536, MAX}) {
                due.is("rank " + rank + " of " + n, Due.INDEX, () -> x.act(rank, 1));
            }
            due.is("acts of " + n, 3, () -> x.count(1));
            due.is("run of " + n, -1, () -> x.run(1, 0));
            due.is("first rank of " + n, 0, () -> x.came(0));
            due.is("rank ahead of the last share of " + n, n - 1, () -> x.came(1));
            due.is("last rank of " + n, n, () -> x.came(2));
        }
    }

    private static void workersAre1To6() {
        DrawShares x = new DrawShares(3);
        for (int workers = 1; workers <= 6; workers++) {
            int w = workers;
            due.is("workers " + w, -1, () -> x.run(w, 0));
            due.is("workers " + w + " are left", w, () -> x.steps(1));
        }
        for (int workers : new int[] {MIN, MIN + 1, -6, -1, 0, 7, 8, 257, 65537, MAX}) {
            due.is("workers " + workers, Due.ARGUMENT, () -> x.run(workers, 0));
        }
        due.is("runs", 6, () -> x.count(2));
        due.is("refused", 0, () -> x.count(3));
        due.is("the latest stays", 6, () -> x.steps(1));
    }

    private static void stopIsAShareOrNone() {
        for (int n : new int[] {1, 2, 39, 40}) {
            DrawShares x = new DrawShares(n);
            int before = DrawShares.NONE;
            for (int share : new int[] {0, n - 1, DrawShares.NONE, DrawShares.NONE, n / 2}) {
                int was = before;
                due.is("stop " + share + " of " + n, was, () -> x.stop(share));
                before = share;
                for (int no : new int[] {MIN, MIN + 1, -3, -2, n, n + 1, n + 256, MAX}) {
                    due.is("stop " + no + " of " + n, Due.INDEX, () -> x.stop(no));
                }
            }
            int last = before;
            due.is("stop stays of " + n, last, () -> x.stop(last));
        }
    }

    private static void stepsAndCountsByNumber() {
        DrawShares x = new DrawShares(5);
        x.act(0, 0);
        x.run(2, 0);
        x.run(3, 0);
        x.run(4, 0);
        x.fails(0, 1, 1);
        x.run(1, 0);
        x.run(1, 0);
        int[] counts = {5, 1, 3, 2};
        for (int what = 0; what < 4; what++) {
            int w = what;
            due.is("count " + w, counts[w], () -> x.count(w));
        }
        for (int what : new int[] {MIN, MIN + 1, -2, -1, 4, 5, 256, 65536, MAX}) {
            due.is("count " + what, Due.INDEX, () -> x.count(what));
        }
        due.is("steps 0", 5, () -> x.steps(0));
        due.is("steps 1", 4, () -> x.steps(1));
        for (int what : new int[] {MIN, MIN + 1, -2, -1, 2, 3, 256, 257, 65536, MAX}) {
            due.is("steps " + what, Due.INDEX, () -> x.steps(what));
        }
    }

    private static void chainStepsAre0ToTheWork() {
        DrawShares x = new DrawShares(2);
        for (int work : new int[] {1, 2, 29, 30}) {
            x.share(1, work, 0, 0);
            due.is("chain behind no step of " + work, 1, () -> x.chain(1, 0));
            due.is("chain behind one step of " + work, 7806831264735756412L, () -> x.chain(1, 1));
            for (int step : new int[] {MIN, MIN + 1, -1, work + 1, work + 2, 256, 65536, MAX}) {
                due.is("chain behind " + step + " of " + work, Due.INDEX, () -> x.chain(1, step));
            }
            due.is("the other share's work", Due.INDEX, () -> x.chain(0, 2));
        }
    }

    /** "An object is used for at most 512 calls": the last of them is answered like the first. */
    private static void all512Calls() {
        DrawShares x = new DrawShares(40);
        x.fails(39, 30, 1);
        for (int i = 0; i < 509; i++) {
            x.run(1 + i % 2, i);
        }
        due.is("call 511", 254, () -> x.count(2));
        due.is("call 512", 255, () -> x.count(3));
    }

    public static void main(String[] args) {
        sharesAre1To40();
        atFirst();
        workIs1To30();
        seedIsAnyIntAndChainsAreIn64Bits();
        valueIsTheUpper31Bits();
        settlesByItsBits();
        failuresAre0To4();
        failsAtAStepOrAtTheLastOne();
        actsAreAtMost24();
        ranksAre0ToTheShares();
        workersAre1To6();
        stopIsAShareOrNone();
        stepsAndCountsByNumber();
        chainStepsAre0ToTheWork();
        all512Calls();
        due.end();
    }
}
