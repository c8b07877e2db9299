import java.util.Random;

/** Drawn runs of calls, right and wrong ones, asked of DrawShares and of the model alike. */
public final class ModelTest {
    private static final Due due = new Due();
    private static final int[] EDGES = {
        Integer.MIN_VALUE, -2, -1, 0, 1, 2, 4, 5, 6, 7, 8, 9, 23, 24, 29, 30, 31, 39, 40, 41, Integer.MAX_VALUE};

    private final Random draw;
    private final DrawShares x;
    private final Model m;
    private final String name;
    private final int size;
    private final int kinds;
    private int calls = 0;

    private ModelTest(int number) {
        // Small seeds next to one another draw nearly the same first number, so they are spread.
        draw = new Random(number * 0x9E3779B97F4A7C15L);
        int wanted = draw.nextInt(4) == 0 ? EDGES[draw.nextInt(EDGES.length)] : 1 + draw.nextInt(12);
        x = new DrawShares(wanted);
        m = new Model(wanted);
        size = m.shares.length;
        kinds = draw.nextInt(4) == 0 ? 18 : 9;
        name = "object " + number + " (" + wanted + "): ";
    }

    private int any(int low, int high) {
        return draw.nextInt(12) == 0 ? EDGES[draw.nextInt(EDGES.length)] : low + draw.nextInt(high - low + 1);
    }

    private int anyInt() {
        return draw.nextInt(4) == 0 ? EDGES[draw.nextInt(EDGES.length)] : draw.nextInt();
    }

    private void ask(String call, Due.Call ofModel, Due.Call ofClass) {
        // Beyond its 512th call nothing is promised of an object.
        if (calls < 512) {
            calls++;
            due.is(name + call, Due.told(ofModel), ofClass);
        }
    }

    private void tell() {
        int a = any(0, size - 1);
        int b = any(1, 30);
        int c = anyInt();
        int d = any(0, 3);
        int times = any(0, 9) / 9;
        int rank = any(0, size);
        int workers = any(1, 6);
        switch (draw.nextInt(kinds)) {
            case 0, 1, 2 -> ask("share " + a + " " + b + " " + c + " " + d,
                () -> m.share(a, b, c, d), () -> x.share(a, b, c, d));
            case 3 -> ask("fails " + a + " " + b + " " + times, () -> m.fails(a, b, times), () -> x.fails(a, b, times));
            case 4 -> ask("fails " + a + " " + b + " " + d, () -> m.fails(a, b, d), () -> x.fails(a, b, d));
            // Kinds above 8 are acts, so that some objects reach the 24th and go beyond it.
            case 5, 9, 10, 11, 12, 13, 14, 15, 16, 17 ->
                ask("act " + rank + " " + c, () -> m.act(rank, c), () -> x.act(rank, c));
            case 6 -> {
                int ahead = draw.nextInt(2) == 0 ? -1 : a;
                ask("stop " + ahead, () -> m.stop(ahead), () -> x.stop(ahead));
            }
            case 7 -> ask("fails " + a + " 1 0", () -> m.fails(a, 1, 0), () -> x.fails(a, 1, 0));
            default -> ask("run " + workers + " " + c, () -> m.run(workers, c), () -> x.run(workers, c));
        }
    }

    private void askAll() {
        ask("joined", m::joined, x::joined);
        ask("many", m::many, x::many);
        for (int k = -1; k <= size; k++) {
            int i = k;
            ask("value " + i, () -> m.value(i), () -> x.value(i));
            ask("begun " + i, () -> m.begun(i), () -> x.begun(i));
            int step = draw.nextInt(34) - 1;
            ask("chain " + i + " " + step, () -> m.chain(i, step), () -> x.chain(i, step));
        }
        for (int act = -1; act <= m.acts.size(); act++) {
            int i = act;
            ask("came " + i, () -> m.came(i), () -> x.came(i));
        }
        for (int what : new int[] {0, 1, 2, 3, EDGES[draw.nextInt(EDGES.length)]}) {
            ask("steps " + what, () -> m.steps(what), () -> x.steps(what));
            ask("count " + what, () -> m.count(what), () -> x.count(what));
        }
    }

    private void play() {
        for (int i = 0; i < 60; i++) {
            tell();
            if (i % 6 == 5) askAll();
        }
    }

    public static void main(String[] args) {
        for (int number = 0; number < 3000; number++) {
            new ModelTest(number).play();
        }
        due.end();
    }
}
