/** Promise 5: request. */
public final class Promise05RequestTest {
    public static void main(String[] args) {
        refusals();
        numbersRunOn();
        whatIsTakenApart();
        queueIsFull();
        sixtyWereMade();
        refusedBeforeFull();
        firstComesFirst();
        Due.end();
    }

    private static void refusals() {
        TokenBus bus = new TokenBus();
        int[][] wrong = {{-1, 0, 1}, {6, 0, 1}, {0, -1, 1}, {0, 6, 1}, {0, 0, 1}, {5, 5, 1}, {-1, -1, 1}, {6, 6, 1},
            {0, 1, -1}, {0, 1, 2048}, {0, 1, Integer.MIN_VALUE}, {0, 1, Integer.MAX_VALUE},
            {Integer.MIN_VALUE, 1, 1}, {1, Integer.MAX_VALUE, 1}};
        for (int[] w : wrong) {
            Due.is("request(" + w[0] + ", " + w[1] + ", " + w[2] + ", 3)", bus.request(w[0], w[1], w[2], 3), -1);
        }
        Due.is("total(2)", bus.total(2), 0);
        Due.is("node(0, 4)", bus.node(0, 4), 0);
    }

    private static void numbersRunOn() {
        TokenBus bus = new TokenBus();
        Due.is("request(0, 5, 0, 0)", bus.request(0, 5, 0, 0), 0);
        Due.is("request(5, 0, 2047, 0)", bus.request(5, 0, 2047, Integer.MIN_VALUE), 1);
        Due.is("request(0, 1, 1, 0)", bus.request(0, 1, 1, 0), 2);
        Due.is("node(0, 4)", bus.node(0, 4), 2);
        Due.is("node(5, 4)", bus.node(5, 4), 1);
        Due.is("node(1, 4)", bus.node(1, 4), 0);
        Due.is("total(2)", bus.total(2), 3);
        Due.is("state(2)", bus.state(2), 0);
    }

    private static void whatIsTakenApart() {
        int[][] parts = {{0, 0, 0, 0}, {7, 7, 0, 0}, {8, 0, 1, 0}, {63, 7, 7, 0}, {64, 0, 0, 1}, {2047, 7, 7, 31},
            {522, 2, 1, 8}, {1355, 3, 1, 21}};
        for (int[] p : parts) {
            TokenBus bus = Buses.ring(0, 1);
            Buses.ask(bus, 1, p[0], 0x01020384);
            int[] due = {p[1], 0, p[2], p[3], 1, 2, 3, 0x84};
            for (int i = 0; i < due.length; i++) {
                Due.is("frame(0, " + (8 + i) + ") for what " + p[0], bus.frame(0, 8 + i), due[i]);
            }
        }
    }

    private static void queueIsFull() {
        TokenBus bus = new TokenBus();
        for (int k = 0; k < 4; k++) {
            Due.is("request(2, 3, 1, 0)", bus.request(2, 3, 1, 0), k);
        }
        Due.is("request(2, 3, 1, 0)", bus.request(2, 3, 1, 0), -2);
        Due.is("total(2)", bus.total(2), 4);
        Due.is("node(2, 4)", bus.node(2, 4), 4);
        Due.is("request(3, 2, 1, 0)", bus.request(3, 2, 1, 0), 4);
        Due.is("state(5)", bus.state(5), -1);
    }

    private static void sixtyWereMade() {
        TokenBus bus = Buses.powered(0, 1);
        int made = 0;
        for (int k = 0; k < 300 && made < 60; k++) {
            if (bus.node(0, 4) < 2) {
                Due.is("request(0, 1, 1, 0)", bus.request(0, 1, 1, 0), made);
                made++;
            }
            bus.step();
        }
        Due.is("total(2)", bus.total(2), 60);
        Due.is("node(0, 4) has room", bus.node(0, 4) < 4, true);
        Due.is("request(0, 1, 1, 0)", bus.request(0, 1, 1, 0), -2);
        Due.is("request(4, 1, 1, 0)", bus.request(4, 1, 1, 0), -2);
        Due.is("request(4, 4, 1, 0)", bus.request(4, 4, 1, 0), -1);
        Due.is("total(2)", bus.total(2), 60);
        Due.is("state(59)", bus.state(59) >= 0, true);
        Due.is("state(60)", bus.state(60), -1);
    }

    private static void refusedBeforeFull() {
        TokenBus bus = new TokenBus();
        for (int k = 0; k < 4; k++) {
            bus.request(2, 3, 1, 0);
        }
        Due.is("request(2, 2, 1, 0)", bus.request(2, 2, 1, 0), -1);
        Due.is("request(2, 6, 1, 0)", bus.request(2, 6, 1, 0), -1);
        Due.is("request(2, 3, 2048, 0)", bus.request(2, 3, 2048, 0), -1);
    }

    private static void firstComesFirst() {
        TokenBus bus = Buses.ring(0, 1);
        for (int k = 0; k < 4; k++) {
            bus.request(0, 1, Buses.what(Buses.WRITE, 1, 5), 100 + k);
        }
        for (int k = 0; k < 4; k++) {
            for (int s = 0; s < 20 && bus.state(k) == 0; s++) {
                bus.step();
            }
            Due.is("state(" + k + ")", bus.state(k), 1);
            Due.is("level(1, 5)", bus.level(1, 5), 100 + k);
            Due.is("node(0, 4)", bus.node(0, 4), 3 - k);
        }
    }
}
