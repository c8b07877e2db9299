import java.util.ArrayList;
import java.util.List;

/** Which calls throw what, in which order, in every kind of state; and "Such a call changes nothing." */
public final class ThrowsTest {
    private static final Due due = new Due();
    private static final int MIN = Integer.MIN_VALUE;
    private static final int MAX = Integer.MAX_VALUE;
    private static final int SHARES = 3;
    private static final int[] NO_SHARE = {MIN, MIN + 1, -2, -1, SHARES, SHARES + 1, 256, 65536, MAX};
    private static final int[] NO_WORK = {MIN, MIN + 1, -1, 0, 31, 32, 257, 65537, MAX};
    private static final int[] NO_BITS = {MIN, -8, -1, 9, 10, 256, 65536, MAX};
    private static final int[] NO_TIMES = {MIN, -4, -1, 5, 6, 256, 65536, MAX};
    private static final int[] NO_WORKERS = {MIN, MIN + 1, -6, -1, 0, 7, 8, 257, 65537, MAX};

    private interface Deed {
        long on(DrawShares x);
    }

    private record Wrong(String name, String want, Deed deed) { }

    /** The states in which every wrong call is tried; each is made anew for each call. */
    private enum State {
        NEW, TOLD, RUN, RUN_AND_TOLD_ANEW, ONLY_REFUSED, RUN_THEN_REFUSED, FULL, FULL_AND_RUN;

        DrawShares make() {
            DrawShares x = new DrawShares(SHARES);
            if (this == NEW) {
                return x;
            }
            tell(x);
            if (this == FULL || this == FULL_AND_RUN) {
                fill(x);
            }
            if (hasRun()) {
                x.run(6, 5);
            }
            if (this == RUN_AND_TOLD_ANEW || this == RUN_THEN_REFUSED) {
                tellAnew(x);
            }
            if (this == ONLY_REFUSED || this == RUN_THEN_REFUSED) {
                x.run(3, 5);
            }
            return x;
        }

        boolean hasRun() {
            return this == RUN || this == RUN_AND_TOLD_ANEW || this == RUN_THEN_REFUSED || this == FULL_AND_RUN;
        }

        int acts() {
            return make().count(1);
        }

        /** Share 0 would settle with any bits, 1 and 2 do with just theirs: so changed bits show. */
        private static void tell(DrawShares x) {
            x.share(0, 4, 48, 0);
            x.share(1, 9, 247, 8);
            x.share(2, 30, 1, 1);
            x.fails(0, 3, 1);
            x.fails(1, 20, 2);
            x.act(3, 100);
            x.act(0, -7);
            x.act(1, 55);
            x.stop(2);
        }

        private static void tellAnew(DrawShares x) {
            x.share(0, 5, 6, 3);
            x.fails(1, 8, 2);
            x.act(2, 9);
            x.stop(1);
        }

        private static void fill(DrawShares x) {
            for (int i = x.count(1); i < 24; i++) {
                x.act(i % (SHARES + 1), i);
            }
        }
    }

    private final List<Wrong> wrongs = new ArrayList<>();

    private void add(String name, String want, Deed deed) {
        wrongs.add(new Wrong(name, want, deed));
    }

    private void addShare() {
        for (int k : NO_SHARE) {
            add("share of " + k, Due.INDEX, x -> x.share(k, 2, 77, 1));
            add("share of " + k + ", work and bits wrong too", Due.INDEX, x -> x.share(k, 0, 77, 9));
        }
        for (int k = 0; k < SHARES; k++) {
            int i = k;
            for (int work : NO_WORK) {
                add("share " + i + " of work " + work, Due.ARGUMENT, x -> x.share(i, work, 77, 1));
            }
            for (int bits : NO_BITS) {
                add("share " + i + " of bits " + bits, Due.ARGUMENT, x -> x.share(i, 2, 77, bits));
            }
            add("share " + i + ", work and bits wrong", Due.ARGUMENT, x -> x.share(i, MAX, 77, MIN));
        }
    }

    private void addFails() {
        for (int k : NO_SHARE) {
            add("fails of " + k, Due.INDEX, x -> x.fails(k, 2, 1));
            add("fails of " + k + ", step and times wrong too", Due.INDEX, x -> x.fails(k, 31, -1));
        }
        for (int k = 0; k < SHARES; k++) {
            int i = k;
            for (int step : NO_WORK) {
                add("fails " + i + " at step " + step, Due.ARGUMENT, x -> x.fails(i, step, 1));
                add("fails " + i + " at step " + step + " no times", Due.ARGUMENT, x -> x.fails(i, step, 0));
            }
            for (int times : NO_TIMES) {
                add("fails " + i + " times " + times, Due.ARGUMENT, x -> x.fails(i, 2, times));
            }
            add("fails " + i + ", step and times wrong", Due.ARGUMENT, x -> x.fails(i, MIN, MAX));
        }
    }

    private void addActStopAndRun(State state) {
        for (int rank : new int[] {MIN, -2, -1, SHARES + 1, SHARES + 2, 256, 65536, MAX}) {
            add("act of rank " + rank, Due.INDEX, x -> x.act(rank, 77));
        }
        if (state.acts() == 24) {
            for (int rank = 0; rank <= SHARES; rank++) {
                int r = rank;
                add("a 25th act of rank " + r, Due.STATE, x -> x.act(r, 77));
            }
        }
        for (int share : NO_SHARE) {
            if (share != DrawShares.NONE) {
                add("stop " + share, Due.INDEX, x -> x.stop(share));
            }
        }
        for (int workers : NO_WORKERS) {
            for (int schedule : new int[] {MIN, 0, MAX}) {
                add("run " + workers + " " + schedule, Due.ARGUMENT, x -> x.run(workers, schedule));
            }
        }
    }

    private void addAsked(State state) {
        for (int k : NO_SHARE) {
            add("value " + k, Due.INDEX, x -> x.value(k));
            add("begun " + k, Due.INDEX, x -> x.begun(k));
            add("chain " + k, Due.INDEX, x -> x.chain(k, 0));
        }
        for (int step : new int[] {MIN, -1, 31, 32, MAX}) {
            for (int k = 0; k < SHARES; k++) {
                int i = k;
                add("chain " + i + " step " + step, Due.INDEX, x -> x.chain(i, step));
            }
        }
        for (int act : new int[] {MIN, -1, state.acts(), state.acts() + 1, 24, 25, MAX}) {
            add("came " + act, Due.INDEX, x -> x.came(act));
        }
        for (int what : new int[] {MIN, -1, 2, 3, MAX}) {
            add("steps " + what, Due.INDEX, x -> x.steps(what));
        }
        for (int what : new int[] {MIN, -1, 4, 5, MAX}) {
            add("count " + what, Due.INDEX, x -> x.count(what));
        }
    }

    private void addNoRun(State state) {
        add("joined without a run", Due.STATE, DrawShares::joined);
        add("many without a run", Due.STATE, DrawShares::many);
        for (int k = 0; k < SHARES; k++) {
            int i = k;
            add("value " + i + " without a run", Due.STATE, x -> x.value(i));
            add("begun " + i + " without a run", Due.STATE, x -> x.begun(i));
        }
        for (int act = 0; act < state.acts(); act++) {
            int i = act;
            add("came " + i + " without a run", Due.STATE, x -> x.came(i));
        }
        add("steps 0 without a run", Due.STATE, x -> x.steps(0));
        add("steps 1 without a run", Due.STATE, x -> x.steps(1));
    }

    private static void isWhatItsNameSays(State state) {
        DrawShares x = state.make();
        boolean refused = state == State.ONLY_REFUSED || state == State.RUN_THEN_REFUSED;
        boolean full = state == State.FULL || state == State.FULL_AND_RUN;
        due.is(state + ": runs", state.hasRun() ? 1 : 0, () -> x.count(2));
        due.is(state + ": refused runs", refused ? 1 : 0, () -> x.count(3));
        due.same(state + ": full", Boolean.toString(full), Boolean.toString(x.count(1) == 24));
    }

    private void check(State state) {
        isWhatItsNameSays(state);
        addShare();
        addFails();
        addActStopAndRun(state);
        addAsked(state);
        if (!state.hasRun()) {
            addNoRun(state);
        }
        String untouched = Probe.all(state.make());
        for (Wrong wrong : wrongs) {
            DrawShares x = state.make();
            String name = state + ": " + wrong.name;
            due.is(name, wrong.want, () -> wrong.deed.on(x));
            due.same(name + " changes nothing", untouched, Probe.all(x));
        }
        // A hundred of them leave room for the calls of the probe, within the 512 of one object.
        int apart = wrongs.size() / 100 + 1;
        DrawShares many = state.make();
        for (int i = 0; i < wrongs.size(); i += apart) {
            Wrong wrong = wrongs.get(i);
            due.is(state + ": one behind the other: " + wrong.name, wrong.want, () -> wrong.deed.on(many));
        }
        due.same(state + ": one behind the other they change nothing", untouched, Probe.all(many));
        DrawShares asked = state.make();
        String first = Probe.told(asked);
        due.same(state + ": to ask changes nothing", first, Probe.told(asked));
    }

    public static void main(String[] args) {
        for (State state : State.values()) {
            new ThrowsTest().check(state);
        }
        due.end();
    }
}
