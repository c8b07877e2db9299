/** "It is REFUSED if all workers are lost before they are done" and "then what the latest run told stays". */
public final class RefusedTest {
    private static final Due due = new Due();

    /** Tells so many losses in all, four at most for each share, beginning with a share and going round. */
    private static void spread(DrawShares x, int losses, int first, int most) {
        int n = x.count(0);
        int rest = losses;
        for (int i = 0; i < n; i++) {
            int times = Math.min(rest, most);
            x.fails((first + i) % n, 1 + i % 30, times);
            rest -= times;
        }
        if (rest != 0) {
            throw new RuntimeException("too many losses");
        }
    }

    private static void lostBeforeAllIsDone() {
        for (int workers = 1; workers <= 6; workers++) {
            for (int losses = 0; losses <= 12; losses++) {
                for (int most = 1; most <= 4; most++) {
                    oneLostBeforeAllIsDone(workers, losses, most);
                }
            }
        }
    }

    private static void oneLostBeforeAllIsDone(int workers, int losses, int most) {
        DrawShares x = new DrawShares(14);
        spread(x, losses, losses % 14, most);
        String name = workers + " workers, " + losses + " losses, " + most + " a share: ";
        boolean refused = losses >= workers;
        for (int schedule : new int[] {0, -1, 4711}) {
            due.is(name + "run", refused ? -2 : -1, () -> x.run(workers, schedule));
        }
        due.is(name + "left", refused ? Due.STATE : Integer.toString(workers - losses), () -> x.steps(1));
        due.is(name + "runs", refused ? 0 : 3, () -> x.count(2));
        due.is(name + "refused", refused ? 3 : 0, () -> x.count(3));
    }

    private static void mostLosses() {
        DrawShares x = new DrawShares(40);
        spread(x, 160, 0, 4);
        for (int workers = 1; workers <= 6; workers++) {
            int w = workers;
            due.is("160 losses, workers " + w, -2, () -> x.run(w, 0));
        }
        due.is("160 losses: refused", 6, () -> x.count(3));
        DrawShares one = new DrawShares(1);
        one.fails(0, 30, 4);
        due.is("one share: four losses, four workers", -2, () -> one.run(4, 0));
        due.is("one share: four losses, five workers", -1, () -> one.run(5, 0));
        due.is("one share: one is left", 1, () -> one.steps(1));
    }

    /** A run does all shares: those too that the joining does not reach lose their workers. */
    private static void sharesThatAreNotJoinedLoseWorkersToo() {
        DrawShares x = new DrawShares(3);
        x.stop(0);
        x.fails(2, 1, 2);
        due.is("behind the stop: two losses, two workers", -2, () -> x.run(2, 0));
        due.is("behind the stop: two losses, three workers", -1, () -> x.run(3, 0));
        due.is("behind the stop: begun", 3, () -> x.begun(2));
        due.is("behind the stop: left", 1, () -> x.steps(1));
        DrawShares y = new DrawShares(3);
        y.share(0, 1, 8, 1);
        y.fails(2, 1, 2);
        due.is("behind the one that settles: two losses, two workers", -2, () -> y.run(2, 0));
        due.is("behind the one that settles: two losses, three workers", 0, () -> y.run(3, 0));
        due.is("behind the one that settles: begun", 3, () -> y.begun(2));
    }

    private static DrawShares withRun() {
        DrawShares x = new DrawShares(4);
        x.share(1, 12, 99, 0);
        x.share(2, 1, 5, 0);
        x.fails(1, 7, 2);
        x.act(4, 5);
        x.act(0, 6);
        x.act(2, 7);
        x.run(5, 3);
        return x;
    }

    private static void whatTheLatestRunToldStays() {
        DrawShares x = withRun();
        String before = Probe.latest(x, 3);
        due.is("stays: begun", 3, () -> x.begun(1));
        x.share(0, 30, -1, 1);
        x.share(1, 2, 3, 8);
        x.fails(3, 2, 4);
        x.act(1, 8);
        x.stop(2);
        due.same("stays: till the next run", before, Probe.latest(x, 3));
        for (int workers = 1; workers <= 6; workers++) {
            int w = workers;
            due.is("stays: refused", -2, () -> x.run(w, w));
            due.same("stays: behind a refused run", before, Probe.latest(x, 3));
            due.is("stays: an act told later did not come", -1, () -> x.came(3));
            due.is("stays: runs", 1, () -> x.count(2));
            due.is("stays: refused runs", w, () -> x.count(3));
        }
        due.is("stays not for chain, which is as told now", -2654435761L, () -> x.chain(0, 0));
        due.is("stays not for what was told: the stop", 2, () -> x.stop(2));
        due.is("stays not for what was told: losses", 4, () -> x.fails(3, 2, 3));
        due.is("behind it: a run", -1, () -> x.run(6, 0));
        due.is("behind it: joined shares", 2, x::many);
        due.is("behind it: the act came", 1, () -> x.came(3));
        due.is("behind it: begun", 4, () -> x.begun(3));
        due.is("behind it: left", 1, () -> x.steps(1));
        due.is("behind it: runs", 2, () -> x.count(2));
        due.is("behind it: refused runs", 6, () -> x.count(3));
    }

    private static void noneButRefusedOnes() {
        DrawShares x = new DrawShares(2);
        x.act(0, 3);
        x.fails(1, 1, 1);
        due.is("none but refused: run", -2, () -> x.run(1, 0));
        due.is("none but refused: joined", Due.STATE, x::joined);
        due.is("none but refused: many", Due.STATE, x::many);
        due.is("none but refused: value", Due.STATE, () -> x.value(0));
        due.is("none but refused: came", Due.STATE, () -> x.came(0));
        due.is("none but refused: begun", Due.STATE, () -> x.begun(1));
        due.is("none but refused: steps", Due.STATE, () -> x.steps(0));
        due.is("none but refused: left", Due.STATE, () -> x.steps(1));
        due.is("none but refused: runs", 0, () -> x.count(2));
        due.is("none but refused: refused runs", 1, () -> x.count(3));
        due.is("none but refused: shares", 2, () -> x.count(0));
        due.is("none but refused: acts", 1, () -> x.count(1));
    }

    /** Failures are told of the share, not of one run: they are not used up. */
    private static void failuresComeInEachRun() {
        DrawShares x = new DrawShares(2);
        x.fails(0, 1, 2);
        for (int i = 1; i <= 5; i++) {
            int runs = i;
            due.is("each run: two workers", -2, () -> x.run(2, runs));
            due.is("each run: three workers", -1, () -> x.run(3, runs));
            due.is("each run: begun", 3, () -> x.begun(0));
            due.is("each run: left", 1, () -> x.steps(1));
            due.is("each run: steps", 4, () -> x.steps(0));
            due.is("each run: runs", runs, () -> x.count(2));
            due.is("each run: refused", runs, () -> x.count(3));
        }
        due.is("each run: still told", 2, () -> x.fails(0, 1, 0));
        due.is("none any more: one worker", -1, () -> x.run(1, 0));
        due.is("none any more: begun", 1, () -> x.begun(0));
    }

    /** Wrong workers throw in a state too in which a run would be refused. */
    private static void wrongWorkersAreNoRefusedRun() {
        DrawShares x = withRun();
        x.fails(3, 1, 4);
        String before = Probe.told(x);
        for (int workers : new int[] {Integer.MIN_VALUE, -1, 0, 7, Integer.MAX_VALUE}) {
            due.is("workers " + workers, Due.ARGUMENT, () -> x.run(workers, 0));
        }
        due.same("wrong workers change nothing", before, Probe.told(x));
    }

    public static void main(String[] args) {
        lostBeforeAllIsDone();
        mostLosses();
        sharesThatAreNotJoinedLoseWorkersToo();
        whatTheLatestRunToldStays();
        noneButRefusedOnes();
        failuresComeInEachRun();
        wrongWorkersAreNoRefusedRun();
        due.end();
    }
}
