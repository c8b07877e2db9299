import java.math.BigInteger;
import java.util.ArrayList;
import java.util.List;
import java.util.Random;

/**
 * The document played through word by word: workers that really do steps, take shares from one
 * another and are lost, in an order that a schedule draws. DrawShares never does this, so both
 * agree only if its short way is right.
 */
final class Model {
    private static final BigInteger TWO_64 = BigInteger.ONE.shiftLeft(64);
    private static final BigInteger SEED_FACTOR = new BigInteger("2654435761");
    private static final BigInteger STEP_FACTOR = new BigInteger("6364136223846793005");
    private static final BigInteger STEP_ADDEND = new BigInteger("1442695040888963407");

    static final class Share {
        int work = 1;
        int seed = 0;
        int bits = 0;
        int lossStep = 1;
        int losses = 0;
    }

    record Act(int rank, int v) { }

    static final class Result {
        long sum;
        int many;
        int settled = -1;
        int steps;
        int left;
        int[] values;
        int[] begun;
        List<Integer> came = new ArrayList<>();
    }

    final Share[] shares;
    final List<Act> acts = new ArrayList<>();
    int stop = -1;
    int runs = 0;
    int refused = 0;
    Result latest = null;

    Model(int size) {
        shares = new Share[Math.max(1, Math.min(40, size))];
        for (int k = 0; k < shares.length; k++) {
            shares[k] = new Share();
        }
    }

    private void needShare(int k) {
        if (k < 0 || k >= shares.length) throw new IndexOutOfBoundsException();
    }

    private void needRun() {
        if (latest == null) throw new IllegalStateException();
    }

    int share(int k, int work, int seed, int bits) {
        needShare(k);
        if (work < 1 || work > 30 || bits < 0 || bits > 8) throw new IllegalArgumentException();
        Share s = shares[k];
        int before = s.work;
        s.work = work;
        s.seed = seed;
        s.bits = bits;
        return before;
    }

    int fails(int k, int step, int times) {
        needShare(k);
        if (step < 1 || step > 30 || times < 0 || times > 4) throw new IllegalArgumentException();
        int before = shares[k].losses;
        shares[k].lossStep = step;
        shares[k].losses = times;
        return before;
    }

    int act(int rank, int v) {
        if (rank < 0 || rank > shares.length) throw new IndexOutOfBoundsException();
        if (acts.size() == 24) throw new IllegalStateException();
        acts.add(new Act(rank, v));
        return acts.size() - 1;
    }

    int stop(int share) {
        if (share != -1) needShare(share);
        int before = stop;
        stop = share;
        return before;
    }

    long joined() {
        needRun();
        return latest.sum;
    }

    int many() {
        needRun();
        return latest.many;
    }

    int value(int k) {
        needShare(k);
        needRun();
        return latest.values[k];
    }

    long chain(int k, int step) {
        needShare(k);
        if (step < 0 || step > shares[k].work) throw new IndexOutOfBoundsException();
        BigInteger x = firstX(k);
        for (int i = 0; i < step; i++) {
            x = nextX(x);
        }
        return x.longValue();
    }

    int came(int act) {
        if (act < 0 || act >= acts.size()) throw new IndexOutOfBoundsException();
        needRun();
        return act < latest.came.size() ? latest.came.get(act) : -1;
    }

    int begun(int k) {
        needShare(k);
        needRun();
        return latest.begun[k];
    }

    int steps(int what) {
        if (what != 0 && what != 1) throw new IndexOutOfBoundsException();
        needRun();
        return what == 0 ? latest.steps : latest.left;
    }

    int count(int what) {
        return switch (what) {
            case 0 -> shares.length;
            case 1 -> acts.size();
            case 2 -> runs;
            case 3 -> refused;
            default -> throw new IndexOutOfBoundsException();
        };
    }

    int run(int workers, int schedule) {
        if (workers < 1 || workers > 6) throw new IllegalArgumentException();
        Result result = work(workers, new Random(schedule));
        if (result == null) {
            refused++;
            return -2;
        }
        runs++;
        join(result);
        latest = result;
        return result.settled;
    }

    private BigInteger firstX(int k) {
        return SEED_FACTOR.multiply(BigInteger.valueOf(shares[k].seed)).add(BigInteger.valueOf(k)).mod(TWO_64);
    }

    private static BigInteger nextX(BigInteger x) {
        return x.multiply(STEP_FACTOR).add(STEP_ADDEND).mod(TWO_64);
    }

    /** Null if all workers are lost before all shares are done. */
    private Result work(int workers, Random order) {
        int n = shares.length;
        Result r = new Result();
        r.values = new int[n];
        r.begun = new int[n];
        int[] done = new int[n];
        int[] lost = new int[n];
        BigInteger[] x = new BigInteger[n];
        List<Integer> open = new ArrayList<>();
        for (int k = 0; k < n; k++) {
            open.add(k);
        }
        List<Integer> holds = new ArrayList<>();
        for (int w = 0; w < workers; w++) {
            holds.add(-1);
        }
        while (!open.isEmpty()) {
            if (holds.isEmpty()) return null;
            int w = order.nextInt(holds.size());
            if (holds.get(w) == -1 || order.nextInt(5) == 0) {
                int k = open.get(order.nextInt(open.size()));
                int from = holds.indexOf(k);
                if (from >= 0) holds.set(from, -1);
                holds.set(w, k);
            }
            int k = holds.get(w);
            Share s = shares[k];
            if (done[k] == 0) {
                r.begun[k]++;
                x[k] = firstX(k);
            }
            x[k] = nextX(x[k]);
            done[k]++;
            r.steps++;
            if (lost[k] < s.losses && done[k] == Math.min(s.lossStep, s.work)) {
                lost[k]++;
                done[k] = 0;
                holds.remove(w);
            } else if (done[k] == s.work) {
                r.values[k] = x[k].shiftRight(33).intValueExact();
                open.remove((Integer) k);
                holds.set(w, -1);
            }
        }
        r.left = holds.size();
        return r;
    }

    private void join(Result r) {
        for (int i = 0; i < acts.size(); i++) {
            r.came.add(-1);
        }
        boolean ended = false;
        for (int k = 0; k < shares.length && !ended; k++) {
            if (k == stop) {
                ended = true;
            } else {
                letIn(r, k);
                r.sum = 1000003L * r.sum + r.values[k];
                r.many++;
                if (shares[k].bits != 0 && r.values[k] % (1 << shares[k].bits) == 0) {
                    r.settled = k;
                    ended = true;
                }
            }
        }
        if (!ended) letIn(r, shares.length);
    }

    private void letIn(Result r, int rank) {
        for (int i = 0; i < acts.size(); i++) {
            if (acts.get(i).rank() == rank) {
                r.sum = 31L * r.sum + acts.get(i).v();
                r.came.set(i, rank);
            }
        }
    }
}
