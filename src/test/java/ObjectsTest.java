import java.util.Random;

/** Objects that are used in turns tell the same as objects that are used alone; each up to its 512th call. */
public final class ObjectsTest {
    private static final Due due = new Due();
    private static final int[] SIZES = {3, 40, 1, 3, 17};

    /** The call of a number, drawn from the object's own seed, so that each object gets calls of its own. */
    private static String call(DrawShares x, int object, int number) {
        Random draw = new Random((object * 1000L + number) * 0x9E3779B97F4A7C15L);
        int n = SIZES[object];
        int k = draw.nextInt(n);
        int a = 1 + draw.nextInt(30);
        int b = draw.nextInt();
        int c = draw.nextInt(3);
        return switch (draw.nextInt(9)) {
            case 0, 1 -> Due.told(() -> x.share(k, a, b, c));
            case 2 -> Due.told(() -> x.fails(k, a, c / 2));
            case 3 -> Due.told(() -> x.fails(k, a, 0));
            case 4 -> Due.told(() -> x.act(k + c / 2, b));
            case 5 -> Due.told(() -> x.stop(c == 0 ? k : DrawShares.NONE));
            default -> Due.told(() -> x.run(1 + a % 6, b));
        };
    }

    private static String[] alone(int object, int calls) {
        DrawShares x = new DrawShares(SIZES[object]);
        String[] answers = new String[calls + 1];
        for (int i = 0; i < calls; i++) {
            answers[i] = call(x, object, i);
        }
        answers[calls] = Probe.latest(x, x.count(1));
        return answers;
    }

    /** All objects are made first, and each call of one stands between calls of the others. */
    private static void inTurns(int calls) {
        String[][] want = new String[SIZES.length][];
        for (int object = 0; object < SIZES.length; object++) {
            want[object] = alone(object, calls);
        }
        DrawShares[] all = new DrawShares[SIZES.length];
        for (int object = 0; object < all.length; object++) {
            all[object] = new DrawShares(SIZES[object]);
        }
        for (int i = 0; i < calls; i++) {
            for (int object = 0; object < all.length; object++) {
                due.same("object " + object + ", call " + i, want[object][i], call(all[object], object, i));
            }
        }
        for (int object = 0; object < all.length; object++) {
            DrawShares x = all[object];
            due.same("object " + object + ", at last", want[object][calls], Probe.latest(x, x.count(1)));
        }
    }

    /** A new object is new, whatever was told to others before it. */
    private static void newBesideOld() {
        String untouched = Probe.all(new DrawShares(3));
        DrawShares old = new DrawShares(3);
        for (int i = 0; i < 24; i++) {
            old.act(i % 4, i);
        }
        for (int k = 0; k < 3; k++) {
            old.share(k, 30, 8, 1);
            old.fails(k, 2, 1);
        }
        old.stop(1);
        old.run(6, 0);
        old.run(1, 0);
        due.same("a new object beside an old one", untouched, Probe.all(new DrawShares(3)));
    }

    private static void toldFirst(DrawShares x) {
        x.share(39, 30, 5, 0);
        x.fails(39, 30, 1);
        x.act(0, 7);
        x.stop(39);
    }

    /** An object that has had 511 calls, all runs but the first four. */
    private static DrawShares after511() {
        DrawShares x = new DrawShares(40);
        toldFirst(x);
        for (int i = 4; i < 511; i++) {
            x.run(2, i);
        }
        return x;
    }

    /** The 512th call is answered as the sixth would be, for each kind of call. */
    private static void the512thCall() {
        DrawShares fresh = new DrawShares(40);
        toldFirst(fresh);
        fresh.run(2, 0);
        due.is("call 512: share", 30, () -> after511().share(39, 1, 0, 0));
        due.is("call 512: share, wrong", Due.ARGUMENT, () -> after511().share(39, 31, 0, 0));
        due.is("call 512: fails", 1, () -> after511().fails(39, 1, 0));
        due.is("call 512: act", 1, () -> after511().act(40, 0));
        due.is("call 512: stop", 39, () -> after511().stop(DrawShares.NONE));
        due.is("call 512: run", -1, () -> after511().run(2, 0));
        due.is("call 512: run, refused", -2, () -> after511().run(1, 0));
        due.is("call 512: joined", fresh.joined(), () -> after511().joined());
        due.is("call 512: many", 39, () -> after511().many());
        due.is("call 512: value", fresh.chain(39, 30) >>> 33, () -> after511().value(39));
        due.is("call 512: chain", fresh.chain(39, 30), () -> after511().chain(39, 30));
        due.is("call 512: came", 0, () -> after511().came(0));
        due.is("call 512: begun", 2, () -> after511().begun(39));
        due.is("call 512: steps", 39 + 30 + 30, () -> after511().steps(0));
        due.is("call 512: left", 1, () -> after511().steps(1));
        due.is("call 512: runs", 507, () -> after511().count(2));
        due.is("call 512: refused", 0, () -> after511().count(3));
    }

    /** The most runs of either kind that 512 calls leave room for. */
    private static void mostRuns() {
        DrawShares good = new DrawShares(1);
        for (int i = 0; i < 511; i++) {
            good.run(1, i);
        }
        due.is("511 runs", 511, () -> good.count(2));
        DrawShares refused = new DrawShares(1);
        refused.fails(0, 1, 1);
        for (int i = 0; i < 510; i++) {
            refused.run(1, i);
        }
        due.is("510 refused runs", 510, () -> refused.count(3));
    }

    /** The most steps that one run can do: all shares with all work, and five workers lost at the last step. */
    private static void mostSteps() {
        DrawShares x = new DrawShares(40);
        for (int k = 0; k < 40; k++) {
            x.share(k, 30, k, 0);
        }
        x.fails(0, 30, 4);
        x.fails(39, 30, 1);
        due.is("most steps: run", -1, () -> x.run(6, 0));
        due.is("most steps", 45 * 30, () -> x.steps(0));
        due.is("most steps: left", 1, () -> x.steps(1));
        due.is("most steps: begun", 5, () -> x.begun(0));
    }

    public static void main(String[] args) {
        // 512 less the calls that Probe.latest asks of the greatest of them.
        inTurns(380);
        newBesideOld();
        the512thCall();
        mostRuns();
        mostSteps();
        due.end();
    }
}
