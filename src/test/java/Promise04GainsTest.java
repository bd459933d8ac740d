/** Promise 4: gains. */
public final class Promise04GainsTest {
    public static void main(String[] args) {
        refusals();
        sumBecomesZero();
        edges();
        eachGainForItsOwn();
        Due.end();
    }

    private static void refusals() {
        TokenBus bus = Buses.powered(1);
        bus.sense(1, -16);
        bus.gains(1, 1, 1);
        bus.step();
        int[][] wrong = {{-1, 0, 0}, {6, 0, 0}, {1, -1, 0}, {1, 101, 0}, {1, 0, -1}, {1, 0, 101},
            {1, Integer.MIN_VALUE, 5}, {1, 5, Integer.MAX_VALUE}, {Integer.MIN_VALUE, 1, 1}};
        for (int[] w : wrong) {
            Due.is("gains(" + w[0] + ", " + w[1] + ", " + w[2] + ")", bus.gains(w[0], w[1], w[2]), false);
            Due.is("node(1, 7)", bus.node(1, 7), 16);
        }
        bus.step();
        Due.is("level(1, 15), the gains having stayed", bus.level(1, 15), 3);
    }

    private static void sumBecomesZero() {
        TokenBus bus = Buses.powered(1);
        bus.sense(1, -16);
        bus.gains(1, 1, 1);
        Buses.steps(bus, 3);
        Due.is("node(1, 7)", bus.node(1, 7), 48);
        Due.is("gains(1, 1, 1)", bus.gains(1, 1, 1), true);
        Due.is("node(1, 7)", bus.node(1, 7), 0);
        Due.is("level(1, 15)", bus.level(1, 15), 4);
    }

    private static void edges() {
        int[][] right = {{100, 0, 100}, {0, 100, 100}, {100, 100, 200}, {1, 0, 1}, {0, 1, 1}};
        for (int n = 0; n < 6; n++) {
            for (int[] g : right) {
                TokenBus bus = Buses.powered(n);
                bus.sense(n, -16);
                Due.is("gains(" + n + ", " + g[0] + ", " + g[1] + ")", bus.gains(n, g[0], g[1]), true);
                bus.step();
                Due.is("level(" + n + ", 15)", bus.level(n, 15), g[2]);
            }
        }
    }

    /** From the second step on the sum is another number than e, so that the gains cannot stand for one another. */
    private static void eachGainForItsOwn() {
        TokenBus bus = Buses.powered(4);
        bus.sense(4, -16);
        bus.gains(4, 3, 5);
        Buses.steps(bus, 2);
        Due.is("level(4, 15)", bus.level(4, 15), (3 * 16 + 5 * 32) / 16);
        bus.gains(4, 5, 3);
        Buses.steps(bus, 2);
        Due.is("level(4, 15)", bus.level(4, 15), (5 * 16 + 3 * 32) / 16);
    }
}
