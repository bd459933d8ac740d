/** Promise 10: node. */
public final class Promise10NodeTest {
    public static void main(String[] args) {
        refusals();
        facts();
        Due.end();
    }

    private static void refusals() {
        TokenBus bus = Buses.ring(0, 1);
        for (int n : new int[] {-1, 6, Integer.MIN_VALUE, Integer.MAX_VALUE}) {
            for (int what = 0; what < 8; what++) {
                Due.is("node(" + n + ", " + what + ")", bus.node(n, what), -1);
            }
        }
        for (int what : new int[] {-1, 8, Integer.MIN_VALUE, Integer.MAX_VALUE}) {
            Due.is("node(0, " + what + ")", bus.node(0, what), -1);
        }
    }

    private static void facts() {
        TokenBus bus = Buses.ring(1, 3);
        Buses.ask(bus, 3, Buses.what(Buses.SUBSCRIBE, 0, 0), 0);
        bus.request(3, 5, 1, 0);
        bus.gains(3, 1, 0);
        bus.sense(3, 4);
        all(bus, 1, 1, 3, 1, 1, 0, 1, 0, 0);
        all(bus, 3, 1, 1, 3, 0, 1, 1, 1, 0);
        bus.step();
        all(bus, 1, 1, 3, 1, 1, 0, 1, 0, 0);
        all(bus, 3, 1, 1, 3, 1, 1, 2, 1, -4);
        all(bus, 5, 0, 5, 5, 0, 0, 0, 0, 0);
        Buses.stepUntilTokenComes(bus, 3);
        bus.step();
        Due.is("node(3, 4), given up", bus.node(3, 4), 0);
        Buses.stepUntilTokenComes(bus, 3);
        Due.is("node(3, 3)", bus.node(3, 3), 3);
        bus.step();
        Due.is("node(3, 2)", bus.node(3, 2), 4);
        Due.is("node(3, 3)", bus.node(3, 3), 0);
        Due.is("node(3, 5)", bus.node(3, 5), 4);
    }

    private static void all(TokenBus bus, int n, int... due) {
        for (int what = 0; what < due.length; what++) {
            Due.is("node(" + n + ", " + what + ")", bus.node(n, what), due[what]);
        }
    }
}
