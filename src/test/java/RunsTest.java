import java.util.Random;

/** Runs of calls of every kind, right and wrong, each answer compared with the model's. */
public final class RunsTest {
    private static final int RUNS = 90;
    /** A round makes at most two calls, and an object is good for 512. */
    private static final int ROUNDS = 256;

    private final Check check;
    private final Random random;
    private final int most;
    private final LogTree x = new LogTree();
    private final Model model = new Model();

    private RunsTest(Check check, long seed) {
        this.check = check;
        this.random = new Random(seed);
        this.most = seed % 3 == 0 ? 600 : 20;
    }

    public static void main(String[] args) {
        Check check = new Check();
        for (int run = 0; run < RUNS; run++) {
            RunsTest test = new RunsTest(check, run);
            for (int i = 0; i < ROUNDS; i++) {
                test.round("run " + run + " round " + i + ": ");
            }
        }
        check.end();
    }

    private void round(String where) {
        switch (random.nextInt(5)) {
            case 0:
                change(where);
                break;
            case 1:
                look(where);
                break;
            case 2:
                prove(where);
                break;
            default:
                judge(where);
        }
    }

    private void change(String where) {
        long v = value();
        int n = random.nextInt(10) == 0 ? random.nextInt(260) - 30 : near(most / 3);
        long step = random.nextInt(4) == 0 ? random.nextLong() : random.nextInt(5) - 2;
        int left = near(model.count(0));
        switch (random.nextInt(4)) {
            case 0:
                same(where + "fill " + n + " " + v + " " + step,
                        () -> model.fill(n, v, step), () -> x.fill(n, v, step));
                break;
            case 1:
                if (model.count(0) > most / 2) {
                    same(where + "cut " + left, () -> model.cut(left), () -> x.cut(left));
                }
                break;
            default:
                same(where + "add " + v, () -> model.add(v), () -> x.add(v));
        }
    }

    private void look(String where) {
        int n = near(model.count(0));
        int m = near(model.count(0));
        long v = value();
        int what = random.nextInt(6) - 1;
        switch (random.nextInt(4)) {
            case 0:
                same(where + "head " + n, () -> model.head(n), () -> x.head(n));
                break;
            case 1:
                same(where + "part " + m + " " + n, () -> model.part(m, n), () -> x.part(m, n));
                break;
            case 2:
                same(where + "find " + n + " " + v, () -> model.find(n, v), () -> x.find(n, v));
                break;
            default:
                same(where + "count " + what, () -> model.count(what), () -> x.count(what));
        }
    }

    private void prove(String where) {
        int n = near(model.count(0));
        int m = near(n);
        int i = near(model.count(1));
        long v = value();
        int length = random.nextInt(45) - 2;
        switch (random.nextInt(5)) {
            case 0:
                same(where + "path " + m + " " + n, () -> model.path(m, n), () -> x.path(m, n));
                break;
            case 1:
                same(where + "steps " + m + " " + n, () -> model.steps(m, n), () -> x.steps(m, n));
                break;
            case 2:
                same(where + "proof " + i, () -> model.proof(i), () -> x.proof(i));
                break;
            case 3:
                same(where + "alter " + i + " " + v, () -> model.alter(i, v), () -> x.alter(i, v));
                break;
            default:
                same(where + "length " + length, () -> model.length(length), () -> x.length(length));
        }
    }

    /** Mostly proofs made just before, so that true is answered often. */
    private void judge(String where) {
        int size = model.count(0);
        if (size == 0) {
            return;
        }
        int n = 1 + random.nextInt(size);
        int m = random.nextInt(n);
        boolean right = random.nextInt(3) > 0;
        if (random.nextBoolean()) {
            same(where + "path " + m + " " + n, () -> model.path(m, n), () -> x.path(m, n));
            int place = right ? m : near(n);
            long v = right ? model.value(m) : value();
            long head = model.head(n);
            same(where + "shows " + place + " " + n,
                    () -> model.shows(place, n, v, head) ? 1 : 0, () -> x.shows(place, n, v, head) ? 1 : 0);
        } else {
            same(where + "steps " + (m + 1) + " " + n, () -> model.steps(m + 1, n), () -> x.steps(m + 1, n));
            int place = right ? m + 1 : near(n);
            long before = model.head(m + 1);
            long head = model.head(n);
            same(where + "grew " + place + " " + n,
                    () -> model.grew(place, n, before, head) ? 1 : 0,
                    () -> x.grew(place, n, before, head) ? 1 : 0);
        }
    }

    private void same(String what, Check.Call want, Check.Call got) {
        check.dueText(what, Check.outcome(want), Check.outcome(got));
    }

    /** Few values, so that find meets the same one twice. */
    private long value() {
        return random.nextInt(6) == 0 ? random.nextLong() : random.nextInt(12) - 4;
    }

    /** From -1 to one above n, now and then far off. */
    private int near(int n) {
        int top = Math.min(Math.max(n, 0), 1000);
        return random.nextInt(30) == 0 ? random.nextInt() : random.nextInt(top + 3) - 1;
    }
}
