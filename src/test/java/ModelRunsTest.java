import java.util.Random;

/** Random runs of at most 512 calls, each answer compared with the model's; the seeds are fixed, so each run is the same. */
public final class ModelRunsTest {
    private static final int RUNS = 6000;
    private static final int CALLS = 512;
    private static final int[] ODD = {Integer.MIN_VALUE, -10001, -2, -1, 6, 7, 17, 18, 60, 256, 2048, Integer.MAX_VALUE};

    private final Random random;
    private final TokenBus bus = new TokenBus();
    private final Model model = new Model();
    private final int seed;
    private final int nodes;
    private final int wildness;
    private int calls = 0;

    private ModelRunsTest(int seed) {
        this.seed = seed;
        this.random = new Random(seed);
        this.nodes = 1 + random.nextInt(6);
        this.wildness = random.nextInt(3);
    }

    public static void main(String[] args) {
        for (int seed = 0; seed < RUNS; seed++) {
            new ModelRunsTest(seed).run();
        }
        Due.end();
    }

    private void run() {
        for (int k = 0; k < nodes; k++) {
            power(random.nextInt(6), true);
        }
        while (calls < CALLS) {
            act();
        }
    }

    private void due(String call, long got, long want) {
        calls++;
        Due.is("seed " + seed + ", call " + calls + ": " + call, got, want);
    }

    private void due(String call, boolean got, boolean want) {
        due(call, got ? 1 : 0, want ? 1 : 0);
    }

    private void act() {
        int dice = random.nextInt(100);
        if (dice < 45) {
            due("step()", bus.step(), model.step());
        } else if (dice < 55) {
            request();
        } else if (dice < 57 + 2 * wildness) {
            int which = pick(2);
            int where = pick(18);
            int mask = random.nextInt(4) == 0 ? pick(256) : 1 << random.nextInt(8);
            due("spoil(" + which + ", " + where + ", " + mask + ")", bus.spoil(which, where, mask), model.spoil(which, where, mask));
        } else if (dice < 62 + wildness) {
            int n = pick(6);
            int value = random.nextBoolean() ? random.nextInt(40) - 20 : random.nextInt(20003) - 10001;
            due("sense(" + n + ", " + value + ")", bus.sense(n, value), model.sense(n, value));
        } else if (dice < 65) {
            int n = pick(6);
            int p = random.nextInt(4) == 0 ? 0 : pick(101);
            int i = random.nextInt(4) == 0 ? 0 : pick(101);
            due("gains(" + n + ", " + p + ", " + i + ")", bus.gains(n, p, i), model.gains(n, p, i));
        } else if (dice < 65 + wildness) {
            power(pick(6), random.nextBoolean());
        } else {
            look();
        }
    }

    private void power(int n, boolean on) {
        due("power(" + n + ", " + on + ")", bus.power(n, on), model.power(n, on));
    }

    /** Mostly a number from 0 to below the bound, sometimes one that is odd. */
    private int pick(int bound) {
        return random.nextInt(40) == 0 ? ODD[random.nextInt(ODD.length)] : random.nextInt(bound);
    }

    private void request() {
        int n = pick(6);
        int target = pick(6);
        int what = random.nextInt(6) == 0 ? pick(2048)
            : 1 + random.nextInt(4) + 8 * random.nextInt(3) + (random.nextInt(3) == 0 ? 0 : 64 * random.nextInt(18));
        int value = switch (random.nextInt(4)) {
            case 0 -> random.nextInt();
            case 1 -> random.nextInt(30) - 15;
            case 2 -> random.nextBoolean() ? Integer.MIN_VALUE : Integer.MAX_VALUE;
            default -> random.nextInt(20003) - 10001;
        };
        due("request(" + n + ", " + target + ", " + what + ", " + value + ")",
            bus.request(n, target, what, value), model.request(n, target, what, value));
    }

    private void look() {
        int n = pick(6);
        int k = random.nextInt(20) == 0 ? ODD[random.nextInt(ODD.length)] : random.nextInt(19) - 1;
        int r = random.nextInt(62) - 1;
        switch (random.nextInt(11)) {
            case 0 -> due("holder()", bus.holder(), model.holder());
            case 1 -> due("phase()", bus.phase(), model.phase());
            case 2 -> due("node(" + n + ", " + k % 9 + ")", bus.node(n, k % 9), model.node(n, k % 9));
            case 3 -> due("value(" + n + ", " + k % 4 + ")", bus.value(n, k % 4), model.value(n, k % 4));
            case 4 -> due("level(" + n + ", " + k + ")", bus.level(n, k), model.level(n, k));
            case 5 -> due("set(" + n + ", " + k + ")", bus.set(n, k), model.set(n, k));
            case 6 -> due("state(" + r + ")", bus.state(r), model.state(r));
            case 7 -> due("answer(" + r + ")", bus.answer(r), model.answer(r));
            case 8 -> due("noted(" + n + ", " + k % 5 + ")", bus.noted(n, k % 5), model.noted(n, k % 5));
            case 9 -> due("frame(" + r % 3 + ", " + k + ")", bus.frame(r % 3, k), model.frame(r % 3, k));
            default -> due("total(" + k % 5 + ")", bus.total(k % 5), model.total(k % 5));
        }
    }
}
