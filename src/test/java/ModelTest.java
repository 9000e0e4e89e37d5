/** Long runs of mixed calls, right and wrong ones, on the class and on the model. */
final class ModelTest {
    private static final int RUNS = 3000;
    private static final int CALLS = 512;
    private static final int[] WILD = {-1, -2, 2, 3, 7, 12, 26, 40, 41, 64, 512, -512,
        Integer.MAX_VALUE, Integer.MIN_VALUE};

    private long seed;
    private final TwoScribes real = new TwoScribes();
    private final Model model = new Model();
    // What kind of run it is: how often there is writing, and how seldom a stroke comes.
    private final int writing;
    private final int coming;
    private final int striking;
    private final int undoing;

    private ModelTest(int run) {
        seed = run * 7919L + 17;
        writing = 20 + next(70);
        coming = next(30);
        striking = next(60);
        undoing = next(40);
    }

    private int next(int bound) {
        seed = seed * 6364136223846793005L + 1442695040888963407L;
        return (int) ((seed >>> 33) % bound);
    }

    private int oddly(int fine) {
        return next(60) == 0 ? WILD[next(WILD.length)] : fine;
    }

    private int scribe() {
        return oddly(next(2));
    }

    /** A place near the copy's letters, often one just outside, often one where ties are likely. */
    private int place(int scribe) {
        int size = model.sides[scribe & 1].copy.size();
        int small = next(3) == 0 ? next(3) : next(size + 1);
        return oddly(next(40) == 0 ? size + next(2) : Math.min(small, size));
    }

    private int sign() {
        return oddly(next(2) == 0 ? next(26) : next(3));
    }

    private int intent() {
        return oddly(next(2));
    }

    private String[] pair(String what, Check.Call ofReal, Check.Call ofModel) {
        return new String[] {what, Check.outcome(ofReal), Check.outcome(ofModel)};
    }

    private String[] write() {
        int s = scribe();
        int p = place(s);
        int kind = next(100);
        if (kind < striking) {
            return pair("strike(" + s + ", " + p + ")", () -> real.strike(s, p),
                    () -> model.strike(s, p));
        }
        if (kind < striking + undoing) {
            return pair("undo(" + s + ")", () -> real.undo(s), () -> model.undo(s));
        }
        int l = sign();
        int i = intent();
        return pair("set(" + s + ", " + p + ", " + l + ", " + i + ")",
                () -> real.set(s, p, l, i), () -> model.set(s, p, l, i));
    }

    private String[] bring() {
        int kind = next(40);
        if (kind == 0) {
            return pair("meet()", () -> real.meet(), () -> model.meet());
        }
        if (kind < 4) {
            int r = oddly(next(3));
            return pair("setRule(" + r + ")", () -> real.setRule(r), () -> model.setRule(r));
        }
        int s = scribe();
        return pair("come(" + s + ")", () -> real.come(s), () -> model.come(s));
    }

    private String[] ask() {
        int s = scribe();
        int p = place(s);
        int w = oddly(next(7));
        switch (next(14)) {
            case 0:
                return pair("letter(" + s + ", " + p + ")", () -> real.letter(s, p),
                        () -> model.letter(s, p));
            case 1:
                return pair("author(" + s + ", " + p + ")", () -> real.author(s, p),
                        () -> model.author(s, p));
            case 2:
                return pair("about(" + s + ", " + w + ")", () -> real.about(s, w),
                        () -> model.about(s, w));
            case 3:
                return pair("count(" + w + ")", () -> real.count(w), () -> model.count(w));
            case 4:
                return pair("first()", () -> real.first(), () -> model.first());
            case 5:
                return pair("page(" + p + ")", () -> real.page(p), () -> model.page(p));
            case 6:
                return pair("goes(" + s + ", " + p + ")", () -> real.goes(s, p),
                        () -> model.goes(s, p));
            case 7:
                return pair("lost(" + s + ")", () -> real.lost(s), () -> model.lost(s));
            case 8:
                return pair("undoes(" + s + ")", () -> real.undoes(s), () -> model.undoes(s));
            case 9:
                return pair("mean()", () -> (long) (real.mean() * 2),
                        () -> (long) (model.mean() * 2));
            case 10:
                return pair("digest()", () -> real.digest(), () -> model.digest());
            case 11:
                return askWay(s);
            default:
                return askWould(s, p);
        }
    }

    private String[] askWay(int s) {
        int n = oddly(next(13));
        int w = oddly(next(4));
        return pair("way(" + s + ", " + n + ", " + w + ")", () -> real.way(s, n, w),
                () -> model.way(s, n, w));
    }

    private String[] askWould(int s, int p) {
        int l = sign();
        int i = intent();
        return pair("would(" + s + ", " + p + ", " + l + ", " + i + ")",
                () -> real.would(s, p, l, i), () -> model.would(s, p, l, i));
    }

    private String[] call() {
        int kind = next(100);
        if (kind < coming) {
            return bring();
        }
        return kind < coming + writing ? write() : ask();
    }

    private void run(int number) {
        for (int call = 1; call < CALLS && !Check.anyWrong(); call++) {
            String[] told = call();
            Check.same("run " + number + ", call " + call + ": " + told[0], told[1], told[2]);
        }
        Check.same("run " + number + ": digest()", real.digest(), model.digest());
    }

    /** Past the 512th call any answer is free, but the machine may not throw. */
    private void runOn(int number) {
        for (int call = 0; call < 4 * CALLS; call++) {
            String[] told = call();
            boolean own = !told[1].startsWith("throws.") || told[1].equals("throws." + Check.INDEX)
                    || told[1].equals("throws." + Check.ARGUMENT)
                    || told[1].equals("throws." + Check.STATE);
            Check.same("run " + number + " beyond its end: " + told[0] + " is no machine's throw "
                    + told[1], own ? 1 : 0, 1);
        }
    }

    /** More strokes to undo than the class has room for, which 512 calls can't write. */
    private static void manyToUndo() {
        TwoScribes x = new TwoScribes();
        for (int time = 0; time < 2 * CALLS; time++) {
            Check.same("set beyond the end", Check.outcome(() -> x.set(0, 0, 1, 0)), "1");
            Check.same("come beyond the end", Check.outcome(() -> x.come(1)), "1");
            Check.same("strike beyond the end", Check.outcome(() -> x.strike(0, 0)), "1");
            Check.same("come beyond the end", Check.outcome(() -> x.come(1)), "2");
        }
    }

    public static void main(String[] args) {
        for (int number = 1; number <= RUNS && !Check.anyWrong(); number++) {
            new ModelTest(number).run(number);
        }
        for (int number = 1; number <= 40 && !Check.anyWrong(); number++) {
            new ModelTest(number).runOn(number);
        }
        manyToUndo();
        Check.end();
    }
}
