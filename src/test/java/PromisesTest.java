/** Promise by promise: ordinary inputs, the edges that the document names, and wrong inputs. */
public final class PromisesTest {
    private static final Due due = new Due();
    private static final int MIN = Integer.MIN_VALUE;
    private static final int MAX = Integer.MAX_VALUE;

    // The values of new shares 0, 1 and 2 (seed 0, one step), as the shared test tells them too.
    private static final long V0 = 167951807L;
    private static final long V1 = 7806831264735756412L >>> 33;
    private static final long V2 = 1649717740L;

    /** Tells share k with one bit and the first seed with which it settles. */
    private static void makeSettle(DrawShares x, int k, int work) {
        for (int seed = 0; seed < 64; seed++) {
            x.share(k, work, seed, 1);
            if ((x.chain(k, work) >>> 33) % 2 == 0) {
                return;
            }
        }
        throw new RuntimeException("no seed settles");
    }

    private static void promise1NewObject() {
        int[][] rows = {{MIN, 1}, {-1, 1}, {0, 1}, {1, 1}, {2, 2}, {39, 39}, {40, 40}, {41, 40}, {MAX, 40}};
        for (int[] row : rows) {
            DrawShares x = new DrawShares(row[0]);
            String name = "1: of " + row[0] + " ";
            due.is(name + "shares", row[1], () -> x.count(0));
            due.is(name + "acts", 0, () -> x.count(1));
            due.is(name + "runs", 0, () -> x.count(2));
            due.is(name + "refused runs", 0, () -> x.count(3));
            due.is(name + "last share's work", 1, () -> x.share(row[1] - 1, 1, 0, 0));
            due.is(name + "last share's losses", 0, () -> x.fails(row[1] - 1, 1, 0));
            due.is(name + "share behind the last", Due.INDEX, () -> x.chain(row[1], 0));
            due.is(name + "seed", row[1] - 1, () -> x.chain(row[1] - 1, 0));
            due.is(name + "stop", -1, () -> x.stop(DrawShares.NONE));
        }
        DrawShares even = new DrawShares(3);
        due.is("1: no bits: share 2's even value does not settle", -1, () -> even.run(1, 0));
        due.is("1: it is even", V2, () -> even.value(2));
    }

    private static void promise2Share() {
        DrawShares x = new DrawShares(3);
        due.is("2: first", 1, () -> x.share(1, 30, MIN, 8));
        due.is("2: again", 30, () -> x.share(1, 7, 5, 0));
        due.is("2: no such share", Due.INDEX, () -> x.share(3, 2, 0, 0));
        due.is("2: share -1", Due.INDEX, () -> x.share(-1, 2, 0, 0));
        due.is("2: share before work", Due.INDEX, () -> x.share(3, 0, 0, 9));
        due.is("2: work 0", Due.ARGUMENT, () -> x.share(1, 0, 9, 1));
        due.is("2: work 31", Due.ARGUMENT, () -> x.share(1, 31, 9, 1));
        due.is("2: bits -1", Due.ARGUMENT, () -> x.share(1, 9, 9, -1));
        due.is("2: bits 9", Due.ARGUMENT, () -> x.share(1, 9, 9, 9));
        due.is("2: extremes", Due.ARGUMENT, () -> x.share(1, MIN, 9, MAX));
        due.is("2: wrong calls changed no seed", 2654435761L * 5 + 1, () -> x.chain(1, 0));
        due.is("2: wrong calls changed no work", Due.INDEX, () -> x.chain(1, 8));
        due.is("2: wrong calls changed no work", 7, () -> x.share(1, 1, 0, 0));
        x.fails(1, 1, 2);
        x.share(1, 4, 4, 4);
        due.is("2: failures stay", 2, () -> x.fails(1, 1, 2));
        due.is("2: work 1 .. 30", 4, () -> x.share(1, 1, 0, 0));
    }

    private static void promise3Fails() {
        DrawShares x = new DrawShares(2);
        due.is("3: first", 0, () -> x.fails(0, 1, 4));
        due.is("3: again", 4, () -> x.fails(0, 30, 1));
        due.is("3: other share", 0, () -> x.fails(1, 5, 0));
        due.is("3: no such share", Due.INDEX, () -> x.fails(2, 1, 1));
        due.is("3: share -1", Due.INDEX, () -> x.fails(-1, 1, 1));
        due.is("3: share before step", Due.INDEX, () -> x.fails(2, 0, 5));
        due.is("3: step 0", Due.ARGUMENT, () -> x.fails(0, 0, 0));
        due.is("3: step 31", Due.ARGUMENT, () -> x.fails(0, 31, 2));
        due.is("3: times -1", Due.ARGUMENT, () -> x.fails(0, 2, -1));
        due.is("3: times 5", Due.ARGUMENT, () -> x.fails(0, 2, 5));
        x.share(0, 10, 0, 0);
        due.is("3: run", -1, () -> x.run(2, 0));
        due.is("3: step 30 of 10 is the last one", 10 + 10 + 1, () -> x.steps(0));
        x.share(0, 30, 0, 0);
        due.is("3: run", -1, () -> x.run(2, 0));
        due.is("3: work told later counts", 30 + 30 + 1, () -> x.steps(0));
        due.is("3: step 29", 1, () -> x.fails(0, 29, 1));
        due.is("3: run", -1, () -> x.run(2, 0));
        due.is("3: step 29 of 30", 29 + 30 + 1, () -> x.steps(0));
    }

    private static void promise4Act() {
        DrawShares x = new DrawShares(2);
        due.is("4: rank -1", Due.INDEX, () -> x.act(-1, 0));
        due.is("4: rank 3", Due.INDEX, () -> x.act(3, 0));
        for (int i = 0; i < 24; i++) {
            int number = i;
            due.is("4: number", number, () -> x.act(number % 3, number));
        }
        due.is("4: a 25th", Due.STATE, () -> x.act(0, 0));
        due.is("4: rank before number", Due.INDEX, () -> x.act(3, 0));
        due.is("4: there are 24", 24, () -> x.count(1));
        due.is("4: run", -1, () -> x.run(1, 0));
        long sum = 0;
        for (int rank = 0; rank < 3; rank++) {
            for (int i = rank; i < 24; i += 3) {
                sum = 31 * sum + i;
            }
            sum = rank < 2 ? 1000003L * sum + (rank == 0 ? V0 : V1) : sum;
        }
        long want = sum;
        due.is("4: by rank, then as told", want, x::joined);
    }

    private static void promise5Stop() {
        DrawShares x = new DrawShares(3);
        x.act(0, 7);
        x.act(1, 8);
        x.act(3, 9);
        due.is("5: first", -1, () -> x.stop(2));
        due.is("5: again", 2, () -> x.stop(1));
        due.is("5: no such share", Due.INDEX, () -> x.stop(3));
        due.is("5: -2", Due.INDEX, () -> x.stop(-2));
        due.is("5: run", -1, () -> x.run(1, 0));
        due.is("5: ahead of share 1 and of its acts", 1000003L * 7 + V0, x::joined);
        due.is("5: to share 0", 1, () -> x.stop(0));
        due.is("5: run", -1, () -> x.run(1, 0));
        due.is("5: nothing is joined", 0, x::joined);
        due.is("5: no share is joined", 0, x::many);
        due.is("5: no act of rank 0", -1, () -> x.came(0));
        due.is("5: no act of the last rank", -1, () -> x.came(2));
        due.is("5: all shares were done", 3, () -> x.steps(0));
        due.is("5: none any more", 0, () -> x.stop(DrawShares.NONE));
        due.is("5: none before", -1, () -> x.stop(DrawShares.NONE));
        due.is("5: run", -1, () -> x.run(1, 0));
        due.is("5: all are joined", 3, x::many);
    }

    private static void promise6Run() {
        DrawShares x = new DrawShares(4);
        for (int workers : new int[] {MIN, -1, 0, 7, MAX}) {
            due.is("6: workers " + workers, Due.ARGUMENT, () -> x.run(workers, 0));
        }
        due.is("6: wrong calls are no runs", 0, () -> x.count(2) + x.count(3));
        makeSettle(x, 2, 5);
        makeSettle(x, 3, 5);
        for (int workers = 1; workers <= 6; workers++) {
            int w = workers;
            for (int schedule : new int[] {MIN, -1, 0, 1, 12345, MAX}) {
                due.is("6: the first that settles", 2, () -> x.run(w, schedule));
                due.is("6: all were left", w, () -> x.steps(1));
            }
        }
        x.stop(2);
        due.is("6: the stop comes first", -1, () -> x.run(1, 0));
        due.is("6: two joined", 2, x::many);
        x.stop(3);
        due.is("6: the stop comes behind", 2, () -> x.run(1, 0));
        due.is("6: three joined", 3, x::many);
        x.fails(0, 1, 2);
        x.fails(3, 1, 4);
        long before = x.joined();
        due.is("6: six losses, six workers", -2, () -> x.run(6, 0));
        due.is("6: what was told stays", before, x::joined);
        due.is("6: it stays", 1, () -> x.begun(0));
        x.fails(0, 1, 1);
        due.is("6: five losses, five workers", -2, () -> x.run(5, 0));
        due.is("6: five losses, six workers", 2, () -> x.run(6, 0));
        due.is("6: one is left", 1, () -> x.steps(1));
        due.is("6: failures come in each run", -2, () -> x.run(5, 0));
        due.is("6: the joined are the same with failures", before, x::joined);
    }

    private static void promise6Bits() {
        for (int bits = 1; bits <= 8; bits++) {
            int settled = 0;
            for (int seed = 0; seed < 600; seed++) {
                DrawShares x = new DrawShares(1);
                x.share(0, 2, seed, bits);
                boolean settles = (x.chain(0, 2) >>> 33) % (1 << bits) == 0;
                settled += settles ? 1 : 0;
                due.is("6: bits " + bits + " seed " + seed, settles ? 0 : -1, () -> x.run(1, 0));
            }
            due.same("6: some settle with bits " + bits, "true", Boolean.toString(settled > 0 && settled < 600));
        }
    }

    private static void promise7Joined() {
        DrawShares x = new DrawShares(3);
        due.is("7: no run", Due.STATE, x::joined);
        x.fails(0, 1, 1);
        due.is("7: refused", -2, () -> x.run(1, 0));
        due.is("7: only a refused run", Due.STATE, x::joined);
        x.fails(0, 1, 0);
        x.act(2, MIN);
        x.act(3, MAX);
        due.is("7: run", -1, () -> x.run(1, 0));
        long sum = 1000003L * V0 + V1;
        long want = 31 * (1000003L * (31 * sum + MIN) + V2) + MAX;
        due.is("7: sum", want, x::joined);
        x.act(0, 5);
        x.share(0, 9, 9, 0);
        x.stop(0);
        due.is("7: stays till the next run", want, x::joined);
        due.is("7: run", -1, () -> x.run(1, 0));
        due.is("7: the next run", 0, x::joined);
    }

    private static void promise7LastShareSettles() {
        DrawShares x = new DrawShares(2);
        makeSettle(x, 1, 3);
        x.act(2, 77);
        due.is("7: the last share settles", 1, () -> x.run(1, 0));
        due.is("7: it ends behind it", 1000003L * V0 + (x.chain(1, 3) >>> 33), x::joined);
        due.is("7: no act of the last rank", -1, () -> x.came(0));
        due.is("7: both are joined", 2, x::many);
    }

    private static void promise8Many() {
        DrawShares x = new DrawShares(40);
        due.is("8: no run", Due.STATE, x::many);
        x.run(1, 0);
        due.is("8: all", 40, x::many);
        x.stop(39);
        x.run(1, 0);
        due.is("8: all but one", 39, x::many);
        makeSettle(x, 17, 1);
        x.run(1, 0);
        due.is("8: the one that settles is joined", 18, x::many);
        x.fails(5, 5, 4);
        due.is("8: refused", -2, () -> x.run(4, 0));
        due.is("8: stays", 18, x::many);
    }

    private static void promise9Value() {
        DrawShares x = new DrawShares(3);
        due.is("9: no run", Due.STATE, () -> x.value(0));
        due.is("9: share before run", Due.INDEX, () -> x.value(3));
        due.is("9: -1", Due.INDEX, () -> x.value(-1));
        x.stop(0);
        x.run(1, 0);
        due.is("9: not joined", V0, () -> x.value(0));
        due.is("9: not joined", V1, () -> x.value(1));
        due.is("9: not joined", V2, () -> x.value(2));
        due.is("9: no such share", Due.INDEX, () -> x.value(3));
        x.share(2, 30, -7, 0);
        due.is("9: of the run", V2, () -> x.value(2));
        x.run(1, 0);
        due.is("9: of the next run", x.chain(2, 30) >>> 33, () -> x.value(2));
    }

    private static void promise10Chain() {
        DrawShares x = new DrawShares(2);
        due.is("10: behind 0", 1, () -> x.chain(1, 0));
        due.is("10: behind 1", 7806831264735756412L, () -> x.chain(1, 1));
        due.is("10: behind 2 of 1", Due.INDEX, () -> x.chain(1, 2));
        due.is("10: -1", Due.INDEX, () -> x.chain(1, -1));
        due.is("10: no such share", Due.INDEX, () -> x.chain(2, 0));
        due.is("10: share -1", Due.INDEX, () -> x.chain(-1, 0));
        due.is("10: extremes", Due.INDEX, () -> x.chain(MAX, MIN));
        for (int seed : new int[] {MIN, -1, 1, MAX}) {
            x.share(1, 30, seed, 0);
            long first = 2654435761L * seed + 1;
            long second = 6364136223846793005L * first + 1442695040888963407L;
            due.is("10: seed " + seed, first, () -> x.chain(1, 0));
            due.is("10: seed " + seed, second, () -> x.chain(1, 1));
            long last = first;
            for (int i = 0; i < 30; i++) {
                last = 6364136223846793005L * last + 1442695040888963407L;
            }
            long want = last;
            due.is("10: seed " + seed, want, () -> x.chain(1, 30));
            due.is("10: seed " + seed, Due.INDEX, () -> x.chain(1, 31));
        }
    }

    private static void promise11Came() {
        DrawShares x = new DrawShares(3);
        due.is("11: act before run", Due.INDEX, () -> x.came(0));
        x.act(3, 1);
        x.act(1, 1);
        x.act(0, 1);
        due.is("11: no run", Due.STATE, () -> x.came(0));
        due.is("11: -1", Due.INDEX, () -> x.came(-1));
        x.run(1, 0);
        due.is("11: last rank", 3, () -> x.came(0));
        due.is("11: rank 1", 1, () -> x.came(1));
        due.is("11: rank 0", 0, () -> x.came(2));
        due.is("11: no such act", Due.INDEX, () -> x.came(3));
        x.act(0, 1);
        due.is("11: told later", -1, () -> x.came(3));
        x.stop(1);
        x.run(1, 0);
        due.is("11: behind the stop", -1, () -> x.came(0));
        due.is("11: the stop's rank", -1, () -> x.came(1));
        due.is("11: ahead of it", 0, () -> x.came(3));
        x.stop(DrawShares.NONE);
        makeSettle(x, 1, 1);
        x.act(2, 1);
        due.is("11: settles", 1, () -> x.run(1, 0));
        due.is("11: ahead of the one that settles", 1, () -> x.came(1));
        due.is("11: behind it", -1, () -> x.came(4));
    }

    private static void promise12Begun() {
        DrawShares x = new DrawShares(3);
        due.is("12: no run", Due.STATE, () -> x.begun(0));
        due.is("12: share before run", Due.INDEX, () -> x.begun(3));
        due.is("12: -1", Due.INDEX, () -> x.begun(-1));
        x.fails(1, 30, 4);
        x.fails(2, 1, 1);
        x.stop(0);
        due.is("12: run", -1, () -> x.run(6, 0));
        due.is("12: none lost", 1, () -> x.begun(0));
        due.is("12: four lost", 5, () -> x.begun(1));
        due.is("12: one lost", 2, () -> x.begun(2));
        due.is("12: no such share", Due.INDEX, () -> x.begun(3));
        x.fails(1, 1, 0);
        due.is("12: of the run", 5, () -> x.begun(1));
    }

    private static void promise13Steps() {
        DrawShares x = new DrawShares(2);
        due.is("13: no run", Due.STATE, () -> x.steps(0));
        due.is("13: no run", Due.STATE, () -> x.steps(1));
        for (int what : new int[] {MIN, -1, 2, MAX}) {
            due.is("13: " + what + " before run", Due.INDEX, () -> x.steps(what));
        }
        x.share(0, 20, 0, 0);
        x.fails(0, 6, 3);
        x.share(1, 4, 0, 0);
        x.fails(1, 4, 1);
        due.is("13: run", -1, () -> x.run(6, 0));
        due.is("13: all steps", 20 + 3 * 6 + 4 + 4, () -> x.steps(0));
        due.is("13: workers left", 2, () -> x.steps(1));
        due.is("13: refused", -2, () -> x.run(4, 0));
        due.is("13: all steps stay", 46, () -> x.steps(0));
        due.is("13: workers left stay", 2, () -> x.steps(1));
        due.is("13: neither", Due.INDEX, () -> x.steps(2));
    }

    private static void promise14Count() {
        DrawShares x = new DrawShares(5);
        x.act(0, 0);
        x.act(5, 0);
        x.run(1, 0);
        x.run(2, 0);
        x.run(3, 0);
        x.fails(0, 1, 1);
        x.run(1, 0);
        due.is("14: shares", 5, () -> x.count(0));
        due.is("14: acts", 2, () -> x.count(1));
        due.is("14: runs", 3, () -> x.count(2));
        due.is("14: refused", 1, () -> x.count(3));
        for (int what : new int[] {MIN, -1, 4, MAX}) {
            due.is("14: " + what, Due.INDEX, () -> x.count(what));
        }
    }

    public static void main(String[] args) {
        promise1NewObject();
        promise2Share();
        promise3Fails();
        promise4Act();
        promise5Stop();
        promise6Run();
        promise6Bits();
        promise7Joined();
        promise7LastShareSettles();
        promise8Many();
        promise9Value();
        promise10Chain();
        promise11Came();
        promise12Begun();
        promise13Steps();
        promise14Count();
        due.end();
    }
}
