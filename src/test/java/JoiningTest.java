import java.math.BigInteger;

/** How results are joined, where the joining ends, and that no schedule is seen in what is told. */
public final class JoiningTest {
    private static final Due due = new Due();
    private static final int MIN = Integer.MIN_VALUE;
    private static final int MAX = Integer.MAX_VALUE;
    private static final BigInteger ACT_FACTOR = BigInteger.valueOf(31);
    private static final BigInteger SHARE_FACTOR = BigInteger.valueOf(1000003);

    /** A seed with which share k, with two steps, has an even or an odd value. */
    private static int seedFor(int k, boolean even) {
        DrawShares x = new DrawShares(40);
        for (int seed = 0; seed < 64; seed++) {
            x.share(k, 2, seed, 0);
            if (((x.chain(k, 2) >>> 33) % 2 == 0) == even) {
                return seed;
            }
        }
        throw new RuntimeException("no such seed");
    }

    /** Ranks from the last to the first and once more, so that the order of telling is not that of coming. */
    private static int[] tellTwoActsOfEachRank(DrawShares x, int n) {
        int[] values = new int[2 * (n + 1)];
        for (int i = 0; i < values.length; i++) {
            values[i] = (i % 2 == 0 ? MAX : MIN) / (i + 1);
            x.act(rankOf(i, n), values[i]);
        }
        return values;
    }

    private static int rankOf(int act, int n) {
        return n - act % (n + 1);
    }

    /** The sum in numbers without an end, cut to 64 bits only when it is told. */
    private static long sumOf(DrawShares x, int n, int[] values, int manyShares, int ranksThatCome) {
        BigInteger sum = BigInteger.ZERO;
        for (int rank = 0; rank <= n; rank++) {
            for (int i = 0; i < values.length; i++) {
                if (rankOf(i, n) == rank && rank < ranksThatCome) {
                    sum = sum.multiply(ACT_FACTOR).add(BigInteger.valueOf(values[i]));
                }
            }
            if (rank < manyShares) {
                sum = sum.multiply(SHARE_FACTOR).add(BigInteger.valueOf(x.chain(rank, 2) >>> 33));
            }
        }
        return sum.longValue();
    }

    /** Every choice of shares that settle, with every stop: all ends that the document names. */
    private static void whereItEnds() {
        for (int n = 1; n <= 4; n++) {
            for (int settling = 0; settling < 1 << n; settling++) {
                for (int stop = DrawShares.NONE; stop < n; stop++) {
                    ends(n, settling, stop);
                }
            }
        }
    }

    private static void ends(int n, int settling, int stop) {
        DrawShares x = new DrawShares(n);
        for (int k = 0; k < n; k++) {
            x.share(k, 2, seedFor(k, (settling >> k & 1) == 1), 1);
        }
        int[] values = tellTwoActsOfEachRank(x, n);
        x.stop(stop);
        int first = settling == 0 ? n : Integer.numberOfTrailingZeros(settling);
        boolean stops = stop != DrawShares.NONE && stop <= first;
        boolean settles = !stops && first < n;
        int many = stops ? stop : settles ? first + 1 : n;
        // Of a stop's rank no act comes, of a settled share's rank all do; the last rank needs all shares.
        int ranks = stops ? stop : settles ? first + 1 : n + 1;
        String name = n + " shares, settling " + Integer.toBinaryString(settling) + ", stop " + stop + ": ";
        due.is(name + "run", settles ? first : DrawShares.NONE, () -> x.run(1, 0));
        due.is(name + "many", many, x::many);
        due.is(name + "joined", sumOf(x, n, values, many, ranks), x::joined);
        for (int i = 0; i < values.length; i++) {
            int act = i;
            int rank = rankOf(i, n);
            due.is(name + "act of rank " + rank, rank < ranks ? rank : DrawShares.NONE, () -> x.came(act));
        }
        for (int k = 0; k < n; k++) {
            int i = k;
            due.is(name + "value, joined or not", x.chain(i, 2) >>> 33, () -> x.value(i));
            due.is(name + "begun, joined or not", 1, () -> x.begun(i));
        }
        due.is(name + "all steps, joined or not", 2 * n, () -> x.steps(0));
    }

    /** "It ends behind the first share that settles": so it does, if that is the last share. */
    private static void theLastShareSettles() {
        DrawShares x = new DrawShares(40);
        x.share(39, 2, seedFor(39, true), 1);
        x.act(40, 5);
        x.act(39, 6);
        due.is("the last settles: run", 39, () -> x.run(1, 0));
        due.is("the last settles: many", 40, x::many);
        due.is("the last settles: the last rank", DrawShares.NONE, () -> x.came(0));
        due.is("the last settles: its own rank", 39, () -> x.came(1));
        x.share(39, 2, seedFor(39, true), 0);
        due.is("it does not: run", DrawShares.NONE, () -> x.run(1, 0));
        due.is("it does not: many", 40, x::many);
        due.is("it does not: the last rank", 40, () -> x.came(0));
    }

    private static void sumsAreIn64Bits() {
        DrawShares x = new DrawShares(40);
        BigInteger sum = BigInteger.ZERO;
        for (int k = 0; k < 40; k++) {
            x.share(k, 30, k % 2 == 0 ? MIN + k : MAX - k, 0);
            if (k < 23) {
                int v = k % 3 == 0 ? MIN : k % 3 == 1 ? MAX : -1;
                x.act(k, v);
                sum = sum.multiply(ACT_FACTOR).add(BigInteger.valueOf(v));
            }
            sum = sum.multiply(SHARE_FACTOR).add(BigInteger.valueOf(x.chain(k, 30) >>> 33));
        }
        x.act(40, MIN);
        long want = sum.multiply(ACT_FACTOR).add(BigInteger.valueOf(MIN)).longValue();
        due.is("long sum: run", -1, () -> x.run(1, 0));
        due.is("long sum", want, x::joined);
    }

    /** One share and one act, so that a wrong sign or factor shows by itself. */
    private static void anActsValueIsAnyInt() {
        long itsValue = 167951807L;
        for (int v : new int[] {MIN, MIN + 1, -1, 0, 1, MAX - 1, MAX}) {
            DrawShares ahead = new DrawShares(1);
            ahead.act(0, v);
            ahead.run(1, 0);
            due.is("act ahead " + v, 1000003L * v + itsValue, ahead::joined);
            DrawShares behind = new DrawShares(1);
            behind.act(1, v);
            behind.run(1, 0);
            due.is("act behind " + v, 31 * itsValue + v, behind::joined);
            DrawShares two = new DrawShares(1);
            two.act(0, 2);
            two.act(0, v);
            two.run(1, 0);
            due.is("act behind an act " + v, 1000003L * (62L + v) + itsValue, two::joined);
        }
    }

    /** The sum begins with 0 in each run, and acts that were told come in each run. */
    private static void eachRunBeginsAnew() {
        DrawShares x = new DrawShares(2);
        x.act(1, 9);
        x.run(1, 0);
        String first = Probe.latest(x, 1);
        x.run(1, 0);
        due.same("a second run tells the same", first, Probe.latest(x, 1));
        x.stop(0);
        due.is("stopped at once: run", -1, () -> x.run(1, 0));
        due.is("stopped at once: joined", 0, x::joined);
        due.is("stopped at once: many", 0, x::many);
        due.is("stopped at once: the act does not come any more", -1, () -> x.came(0));
        x.stop(DrawShares.NONE);
        x.run(1, 0);
        due.same("no stop any more", first, Probe.latest(x, 1));
    }

    /** A stop is told of the object, not of one run: it is not used up, by a refused run neither. */
    private static void aStopStays() {
        DrawShares x = new DrawShares(3);
        x.stop(1);
        for (int i = 0; i < 3; i++) {
            due.is("stop stays: run", -1, () -> x.run(1, 0));
            due.is("stop stays: many", 1, x::many);
            x.fails(2, 1, 1);
            due.is("stop stays: refused", -2, () -> x.run(1, 0));
            x.fails(2, 1, 0);
        }
        due.is("stop stays: told", 1, () -> x.stop(1));
    }

    /** "NONE if it did not (or was told later)": behind each run, for acts of all ranks. */
    private static void actsToldLater() {
        DrawShares x = new DrawShares(2);
        x.run(1, 0);
        for (int rank = 0; rank <= 2; rank++) {
            int act = rank;
            x.act(rank, 4);
            due.is("told later: rank " + act, DrawShares.NONE, () -> x.came(act));
        }
        x.run(1, 0);
        for (int rank = 0; rank <= 2; rank++) {
            int act = rank;
            due.is("told in time: rank " + act, act, () -> x.came(act));
        }
        x.act(1, 4);
        due.is("told later again", DrawShares.NONE, () -> x.came(3));
        due.is("those told in time", 1, () -> x.came(1));
    }

    /** "all that is told is the same for every number of workers and every schedule". */
    private static void noScheduleIsSeen() {
        String first = null;
        for (int workers = 4; workers <= 6; workers++) {
            for (int schedule : new int[] {MIN, MIN + 1, -1, 0, 1, 2, 12345, MAX}) {
                DrawShares x = new DrawShares(5);
                x.share(0, 30, 17, 0);
                x.share(3, 7, seedFor(3, true), 0);
                x.share(4, 2, seedFor(4, true), 1);
                x.fails(0, 12, 1);
                x.fails(3, 9, 2);
                x.act(3, 8);
                x.act(0, -8);
                int w = workers;
                due.is("schedule " + schedule + ": run", 4, () -> x.run(w, schedule));
                due.is("schedule " + schedule + ": left", w - 3, () -> x.steps(1));
                String told = Probe.latest(x, 2).replaceAll("left=\\d+ ", "");
                first = first == null ? told : first;
                due.same("schedule " + schedule + " with " + w + " workers", first, told);
            }
        }
    }

    public static void main(String[] args) {
        whereItEnds();
        theLastShareSettles();
        sumsAreIn64Bits();
        anActsValueIsAnyInt();
        eachRunBeginsAnew();
        aStopStays();
        actsToldLater();
        noScheduleIsSeen();
        due.end();
    }
}
