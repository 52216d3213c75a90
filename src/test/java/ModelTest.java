import java.util.Random;

/** Random runs of calls, right and wrong ones, on the class and on the model: all must be alike. */
public final class ModelTest {
    private static final Due due = new Due("ModelTest");
    private static final int RUNS = 300, CALLS = 160;

    private final Random random;
    private final ReadAhead x = new ReadAhead();
    private final Model model = new Model();
    private final StringBuilder calls = new StringBuilder();
    // Few blocks make hits, many make waste; both must come up.
    private final int blocks;
    private final int wrongOnes;
    private int walk = 0;

    private ModelTest(int seed) {
        random = new Random(seed);
        blocks = 4 + random.nextInt(61);
        wrongOnes = random.nextInt(3);
    }

    public static void main(String[] args) {
        for (int seed = 0; seed < RUNS && !due.hasWrong(); seed++) {
            new ModelTest(seed).run(seed);
        }
        due.end();
    }

    private void run(int seed) {
        clear();
        for (int i = 0; i < CALLS && !due.hasWrong(); i++) {
            call();
            int foreseen = i % 8 == 0 ? 6 : 0;
            due.same("run " + seed + calls + ": view", View.of(x, foreseen), model.view(foreseen));
        }
    }

    private void call() {
        int dice = random.nextInt(100);
        if (dice < 68) {
            ask();
        } else if (dice < 76) {
            kind();
        } else if (dice < 82) {
            hint();
        } else if (dice < 88) {
            share();
        } else if (dice < 93) {
            int n = random.nextInt(10) == 0 ? number(-1, 65) : random.nextInt(4);
            same("idle(" + n + ")", x.idle(n), model.idle(n));
        } else if (dice < 96) {
            int s = number(0, 1);
            same("keep(" + s + ")", x.keep(s), model.keep(s));
        } else if (dice < 99) {
            int s = number(0, 1);
            same("back(" + s + ")", x.back(s), model.back(s));
        } else {
            clear();
        }
    }

    private void clear() {
        int space = number(1, random.nextBoolean() ? 12 : 4);
        int speed = number(1, 3);
        int pace = number(1, 4);
        same("clear(" + space + ", " + speed + ", " + pace + ")",
                x.clear(space, speed, pace), model.clear(space, speed, pace));
    }

    private void ask() {
        int p = number(0, 3);
        int step = random.nextInt(4);
        walk = step == 0 ? random.nextInt(blocks) : (walk + step - 1 + (p & 1)) % blocks;
        int any = number(0, 63);
        int block = any < 0 || any > 63 ? any : walk;
        same("ask(" + p + ", " + block + ")", x.ask(p, block), model.ask(p, block));
    }

    private void kind() {
        int p = number(0, 3);
        int kind = number(0, 5);
        int reach = number(0, 8);
        same("kind(" + p + ", " + kind + ", " + reach + ")", x.kind(p, kind, reach), model.kind(p, kind, reach));
    }

    private void hint() {
        int p = number(0, 3);
        if (random.nextBoolean()) {
            int reach = random.nextInt(9);
            same("kind(" + p + ", 4, " + reach + ")", x.kind(p, 4, reach), model.kind(p, 4, reach));
        }
        int a = number(0, blocks - 1);
        int b = Math.min(63, a + random.nextInt(12) - 1);
        same("hint(" + p + ", " + a + ", " + b + ")", x.hint(p, a, b), model.hint(p, a, b));
    }

    private void share() {
        int p = number(0, 3);
        int n = random.nextInt(3) == 0 ? number(0, 12) : number(0, 4);
        same("share(" + p + ", " + n + ")", x.share(p, n), model.share(p, n));
    }

    /** From least to most, and now and then one below or above, just so or far out. */
    private int number(int least, int most) {
        if (random.nextInt(100) < wrongOnes) {
            int[] outside = {least - 1, most + 1, Integer.MIN_VALUE, Integer.MAX_VALUE};
            return outside[random.nextInt(outside.length)];
        }
        return least + random.nextInt(most - least + 1);
    }

    private void same(String call, int got, int want) {
        calls.append(' ').append(call);
        due.is(calls.toString(), got, want);
    }
}
