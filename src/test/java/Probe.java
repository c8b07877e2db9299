/** All that can be asked of an object, as one text, so that two objects can be compared. */
final class Probe {
    private final DrawShares x;
    private final int shares;
    private final int acts;
    private final StringBuilder text = new StringBuilder();

    private Probe(DrawShares x) {
        this.x = x;
        this.shares = x.count(0);
        this.acts = x.count(1);
    }

    /** What the latest run told about all shares and about the first acts. */
    static String latest(DrawShares x, int firstActs) {
        Probe p = new Probe(x);
        p.askLatest(firstActs);
        return p.text.toString();
    }

    /** What the object tells now, by calls that change nothing. */
    static String told(DrawShares x) {
        Probe p = new Probe(x);
        p.askTold();
        return p.text.toString();
    }

    /** All that the object keeps, what only runs and later calls bring to light too: it is used up by this. */
    static String all(DrawShares x) {
        Probe p = new Probe(x);
        p.askTold();
        p.askKept();
        return p.text.toString();
    }

    private void ask(String name, Due.Call call) {
        text.append(name).append('=').append(Due.told(call)).append(' ');
    }

    private void askLatest(int firstActs) {
        ask("joined", x::joined);
        ask("many", x::many);
        ask("steps", () -> x.steps(0));
        ask("left", () -> x.steps(1));
        for (int k = 0; k < shares; k++) {
            int i = k;
            ask("value" + i, () -> x.value(i));
            ask("begun" + i, () -> x.begun(i));
        }
        for (int act = 0; act < firstActs; act++) {
            int i = act;
            ask("came" + i, () -> x.came(i));
        }
    }

    private void askTold() {
        for (int what = 0; what < 4; what++) {
            int w = what;
            ask("count" + w, () -> x.count(w));
        }
        for (int k = 0; k < shares; k++) {
            for (int step = 0; step <= 30; step++) {
                int i = k;
                int s = step;
                ask("chain" + i + "," + s, () -> x.chain(i, s));
            }
        }
        askLatest(acts);
    }

    private void askRun() {
        ask("run", () -> x.run(6, 0));
        askLatest(0);
    }

    private void askKept() {
        ask("run", () -> x.run(6, 0));
        askLatest(acts);
        ask("stop", () -> x.stop(DrawShares.NONE));
        ask("run", () -> x.run(6, 0));
        askLatest(acts);
        for (int k = 0; k < shares; k++) {
            int i = k;
            // All get the most work, so that a failure's step beyond the work shows; no share hides
            // behind one that settles, since those ahead of it have no bits any more.
            ask("share" + i, () -> x.share(i, 30, 0, 0));
            askRun();
        }
        for (int k = 0; k < shares; k++) {
            int i = k;
            ask("fails" + i, () -> x.fails(i, 1, 0));
            askRun();
        }
        ask("act", () -> x.act(0, 1));
        askRun();
        for (int what = 0; what < 4; what++) {
            int w = what;
            ask("count" + w, () -> x.count(w));
        }
    }
}
