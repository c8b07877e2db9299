import java.util.Arrays;

/**
 * Work in numbered shares, done by workers that may fail, joined by number.
 *
 * No worker is played through step by step: every share is done in the end, with as many losses
 * as were told for it, whoever does it and whenever. So all that a run tells follows from what was
 * told before it and from the number of workers alone.
 */
public final class DrawShares {
    public static final int NONE = -1;

    private static final int REFUSED = -2;
    private static final int MOST_SHARES = 40;
    private static final int MOST_WORK = 30;
    private static final int MOST_BITS = 8;
    private static final int MOST_LOSSES = 4;
    private static final int MOST_ACTS = 24;
    private static final int MOST_WORKERS = 6;

    private final Shares shares;
    private final Acts acts;
    private final Told told;
    private int stopAhead;
    private int goodRuns;
    private int refusedRuns;

    public DrawShares(int shares) {
        int size = Math.max(1, Math.min(MOST_SHARES, shares));
        this.shares = new Shares(size);
        this.acts = new Acts();
        this.told = new Told(size);
        this.stopAhead = NONE;
    }

    public int share(int k, int work, int seed, int bits)
            throws IndexOutOfBoundsException, IllegalArgumentException {
        needShare(k);
        if (work < 1 || work > MOST_WORK) {
            throw new IllegalArgumentException("work is not 1 .. 30");
        }
        if (bits < 0 || bits > MOST_BITS) {
            throw new IllegalArgumentException("bits are not 0 .. 8");
        }
        int before = shares.work[k];
        shares.work[k] = work;
        shares.seed[k] = seed;
        shares.bits[k] = bits;
        return before;
    }

    public int fails(int k, int step, int times)
            throws IndexOutOfBoundsException, IllegalArgumentException {
        needShare(k);
        if (step < 1 || step > MOST_WORK) {
            throw new IllegalArgumentException("step is not 1 .. 30");
        }
        if (times < 0 || times > MOST_LOSSES) {
            throw new IllegalArgumentException("times is not 0 .. 4");
        }
        int before = shares.losses[k];
        shares.lossStep[k] = step;
        shares.losses[k] = times;
        return before;
    }

    public int act(int rank, int v) throws IndexOutOfBoundsException, IllegalStateException {
        if (rank < 0 || rank > shares.size) {
            throw new IndexOutOfBoundsException("there is no such rank");
        }
        if (acts.size >= MOST_ACTS) {
            throw new IllegalStateException("there are 24 acts");
        }
        return acts.append(rank, v);
    }

    public int stop(int share) throws IndexOutOfBoundsException {
        if (share != NONE) {
            needShare(share);
        }
        int before = stopAhead;
        stopAhead = share;
        return before;
    }

    /** The schedule is not looked at: no answer may depend on it. */
    public int run(int workers, int schedule) throws IllegalArgumentException {
        if (workers < 1 || workers > MOST_WORKERS) {
            throw new IllegalArgumentException("workers is not 1 .. 6");
        }
        int left = workers - shares.allLosses();
        if (left < 1) {
            refusedRuns++;
            return REFUSED;
        }
        goodRuns++;
        told.workersLeft = left;
        told.doAll(shares);
        return told.joinAll(shares, acts, stopAhead);
    }

    public long joined() throws IllegalStateException {
        needRun();
        return told.sum;
    }

    public int many() throws IllegalStateException {
        needRun();
        return told.joinedShares;
    }

    public int value(int k) throws IndexOutOfBoundsException, IllegalStateException {
        needShare(k);
        needRun();
        return told.values[k];
    }

    public long chain(int k, int step) throws IndexOutOfBoundsException {
        needShare(k);
        if (step < 0 || step > shares.work[k]) {
            throw new IndexOutOfBoundsException("there is no such step");
        }
        return shares.behind(k, step);
    }

    public int came(int act) throws IndexOutOfBoundsException, IllegalStateException {
        if (act < 0 || act >= acts.size) {
            throw new IndexOutOfBoundsException("there is no such act");
        }
        needRun();
        return told.actsCame[act];
    }

    public int begun(int k) throws IndexOutOfBoundsException, IllegalStateException {
        needShare(k);
        needRun();
        return told.begins[k];
    }

    public int steps(int what) throws IndexOutOfBoundsException, IllegalStateException {
        if (what < 0 || what > 1) {
            throw new IndexOutOfBoundsException("what is not 0 or 1");
        }
        needRun();
        return what == 0 ? told.stepsDone : told.workersLeft;
    }

    public int count(int what) throws IndexOutOfBoundsException {
        switch (what) {
            case 0:
                return shares.size;
            case 1:
                return acts.size;
            case 2:
                return goodRuns;
            case 3:
                return refusedRuns;
            default:
                throw new IndexOutOfBoundsException("what is not 0 .. 3");
        }
    }

    private void needShare(int k) {
        if (k < 0 || k >= shares.size) {
            throw new IndexOutOfBoundsException("there is no such share");
        }
    }

    private void needRun() {
        if (!told.ready) {
            throw new IllegalStateException("there was no run that was not refused");
        }
    }

    /** The shares as told now; every k that comes in has been looked at by the caller. */
    private static final class Shares {
        private static final long SEED_FACTOR = 2654435761L;
        private static final long STEP_FACTOR = 6364136223846793005L;
        private static final long STEP_ADDEND = 1442695040888963407L;
        private static final int VALUE_SHIFT = 33;

        private final int size;
        private final int[] work;
        private final int[] seed;
        private final int[] bits;
        private final int[] lossStep;
        private final int[] losses;

        private Shares(int size) {
            this.size = size;
            this.work = new int[size];
            this.seed = new int[size];
            this.bits = new int[size];
            this.lossStep = new int[size];
            this.losses = new int[size];
            Arrays.fill(this.work, 1);
            Arrays.fill(this.lossStep, 1);
        }

        private long behind(int k, int step) {
            long x = SEED_FACTOR * seed[k] + k;
            for (int i = 0; i < step; i++) {
                x = STEP_FACTOR * x + STEP_ADDEND;
            }
            return x;
        }

        private int lastValue(int k) {
            return (int) (behind(k, work[k]) >>> VALUE_SHIFT);
        }

        private boolean settles(int k, int itsValue) {
            int lowest = (1 << bits[k]) - 1;
            return bits[k] != 0 && (itsValue & lowest) == 0;
        }

        private int allLosses() {
            int sum = 0;
            for (int k = 0; k < size; k++) {
                sum += losses[k];
            }
            return sum;
        }

        /** The steps of lost workers count too; a share with less work loses them at its last step. */
        private int stepsWithLosses(int k) {
            return work[k] + losses[k] * Math.min(lossStep[k], work[k]);
        }
    }

    /** The acts in the order in which they were told. */
    private static final class Acts {
        private final int[] rank;
        private final int[] addend;
        private int size;

        private Acts() {
            this.rank = new int[MOST_ACTS];
            this.addend = new int[MOST_ACTS];
            this.size = 0;
        }

        private int append(int rankOfAct, int v) {
            int number = size;
            rank[number] = rankOfAct;
            addend[number] = v;
            size = number + 1;
            return number;
        }
    }

    /** What the latest run that was not refused told; the rows are used again by each such run. */
    private static final class Told {
        private static final long ACT_FACTOR = 31L;
        private static final long SHARE_FACTOR = 1000003L;

        private final int[] values;
        private final int[] begins;
        private final int[] actsCame;
        private boolean ready;
        private long sum;
        private int joinedShares;
        private int stepsDone;
        private int workersLeft;

        private Told(int size) {
            this.values = new int[size];
            this.begins = new int[size];
            this.actsCame = new int[MOST_ACTS];
        }

        /** All shares are done, those too that the joining does not reach. */
        private void doAll(Shares shares) {
            ready = true;
            stepsDone = 0;
            for (int k = 0; k < shares.size; k++) {
                values[k] = shares.lastValue(k);
                begins[k] = shares.losses[k] + 1;
                stepsDone += shares.stepsWithLosses(k);
            }
        }

        private int joinAll(Shares shares, Acts acts, int stopAhead) {
            sum = 0;
            joinedShares = 0;
            // The whole row, so that acts that are told later find NONE too.
            Arrays.fill(actsCame, NONE);
            for (int k = 0; k < shares.size; k++) {
                if (k == stopAhead) {
                    return NONE;
                }
                letIn(acts, k);
                sum = SHARE_FACTOR * sum + values[k];
                joinedShares++;
                if (shares.settles(k, values[k])) {
                    return k;
                }
            }
            letIn(acts, shares.size);
            return NONE;
        }

        private void letIn(Acts acts, int rank) {
            for (int i = 0; i < acts.size; i++) {
                if (acts.rank[i] == rank) {
                    sum = ACT_FACTOR * sum + acts.addend[i];
                    actsCame[i] = rank;
                }
            }
        }
    }
}
