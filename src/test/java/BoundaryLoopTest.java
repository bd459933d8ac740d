/** The loops at the end of a step, at their boundaries. */
public final class BoundaryLoopTest {
    public static void main(String[] args) {
        ifItsGainsAreNotBothZero();
        everyPoweredNode();
        theSumIsHeld();
        theSumGoesOnFromItsEnds();
        theGreatestDifferences();
        roundedDown();
        theLevelIsHeld();
        theGreatestNumbersOfAll();
        Due.end();
    }

    /** Node 1, of a ring with 0, with this setpoint, input and these gains; no step has been made with them. */
    private static TokenBus loop(int setpoint, int input, int p, int i) {
        TokenBus bus = Buses.ring(0, 1);
        Buses.ask(bus, 1, Buses.what(Buses.WRITE, 2, 0), setpoint);
        Due.is("value(1, 2)", bus.value(1, 2), setpoint);
        bus.sense(1, input);
        bus.gains(1, p, i);
        return bus;
    }

    private static void looksLike(TokenBus bus, int sum, int level) {
        Due.is("node(1, 7)", bus.node(1, 7), sum);
        Due.is("level(1, 15)", bus.level(1, 15), level);
        Due.is("set(1, 15)", bus.set(1, 15), true);
    }

    /** "if its gains are not both 0". */
    private static void ifItsGainsAreNotBothZero() {
        int[][] gains = {{0, 0}, {1, 0}, {0, 1}, {1, 1}, {100, 0}, {0, 100}};
        for (int[] g : gains) {
            TokenBus bus = loop(16, 0, g[0], g[1]);
            bus.step();
            boolean runs = g[0] + g[1] > 0;
            Due.is("set(1, 15) for " + g[0] + ", " + g[1], bus.set(1, 15), runs);
            Due.is("node(1, 7)", bus.node(1, 7), runs ? 16 : 0);
            Due.is("level(1, 15)", bus.level(1, 15), g[0] + g[1]);
        }
    }

    /** "every powered node's loop is run": the first and the last, and none without power. */
    private static void everyPoweredNode() {
        for (int n = 0; n < 6; n++) {
            TokenBus bus = Buses.powered(n);
            for (int k = 0; k < 6; k++) {
                bus.sense(k, -160);
                bus.gains(k, 1, 0);
            }
            Due.is("step()", bus.step(), 0);
            for (int k = 0; k < 6; k++) {
                Due.is("set(" + k + ", 15)", bus.set(k, 15), k == n);
                Due.is("level(" + k + ", 15)", bus.level(k, 15), k == n ? 10 : 0);
                Due.is("node(" + k + ", 7)", bus.node(k, 7), k == n ? 160 : 0);
            }
        }
    }

    /** "the sum grows by e, held within -10000 .. 10000": to the end, next to it, and over it. */
    private static void theSumIsHeld() {
        int[][] twice = {{6000, 3999, 9999}, {6000, 4000, 10000}, {6000, 4001, 10000}, {10000, 0, 10000},
            {9999, 1, 10000}, {9999, 2, 10000}, {10000, 10000, 10000}};
        for (int[] t : twice) {
            for (int sign : new int[] {-1, 1}) {
                TokenBus bus = loop(0, -sign * t[0], 0, 1);
                bus.step();
                looksLike(bus, sign * t[0], Math.floorDiv(sign * t[0], 16));
                bus.sense(1, -sign * t[1]);
                bus.step();
                looksLike(bus, sign * t[2], Math.floorDiv(sign * t[2], 16));
            }
        }
    }

    /** What was held is forgotten: from the end it goes back by what e is. */
    private static void theSumGoesOnFromItsEnds() {
        for (int sign : new int[] {-1, 1}) {
            TokenBus bus = loop(0, -sign * 10000, 0, 1);
            Buses.steps(bus, 3);
            looksLike(bus, sign * 10000, sign * 625);
            bus.sense(1, sign);
            bus.step();
            looksLike(bus, sign * 9999, Math.floorDiv(sign * 9999, 16));
            bus.sense(1, sign * 10000);
            bus.step();
            looksLike(bus, -sign, Math.floorDiv(-sign, 16));
        }
    }

    /** "e is the setpoint less the input": from -20000 to 20000. */
    private static void theGreatestDifferences() {
        for (int sign : new int[] {-1, 1}) {
            TokenBus bus = loop(sign * 10000, -sign * 10000, 0, 1);
            bus.step();
            looksLike(bus, sign * 10000, sign * 625);
            bus.sense(1, sign * 10000);
            bus.step();
            looksLike(bus, sign * 10000, sign * 625);
            bus.gains(1, 1, 0);
            bus.sense(1, sign * 9984);
            bus.step();
            looksLike(bus, sign * 16, sign);
            bus.gains(1, 1, 0);
            bus.sense(1, -sign * 10000);
            bus.step();
            looksLike(bus, sign * 10000, sign * 1000);
        }
    }

    /** "(P * e + I * sum) / 16, rounded down": behind, at and before each whole number, on both sides of 0. */
    private static void roundedDown() {
        int[][] cases = {{-33, -3}, {-32, -2}, {-31, -2}, {-17, -2}, {-16, -1}, {-15, -1}, {-1, -1}, {0, 0}, {1, 0},
            {15, 0}, {16, 1}, {17, 1}, {31, 1}, {32, 2}, {33, 2}};
        for (int[] c : cases) {
            TokenBus byP = loop(0, -c[0], 1, 0);
            byP.step();
            looksLike(byP, c[0], c[1]);
            TokenBus byI = loop(c[0], 0, 0, 1);
            byI.step();
            looksLike(byI, c[0], c[1]);
        }
        TokenBus together = loop(0, 3, 5, 3);
        together.step();
        looksLike(together, -3, -2);
        TokenBus added = loop(0, -9, 1, 1);
        added.step();
        looksLike(added, 9, 1);
    }

    /** "held within -1000 .. 1000". */
    private static void theLevelIsHeld() {
        int[][] cases = {{15983, 998}, {15984, 999}, {15999, 999}, {16000, 1000}, {16015, 1000}, {16016, 1000},
            {16032, 1000}, {-15983, -999}, {-15984, -999}, {-15985, -1000}, {-16000, -1000}, {-16001, -1000},
            {-16017, -1000}};
        for (int[] c : cases) {
            int setpoint = c[0] / 2;
            TokenBus bus = loop(setpoint, setpoint - c[0], 1, 0);
            bus.step();
            looksLike(bus, Math.max(-10000, Math.min(10000, c[0])), c[1]);
        }
    }

    private static void theGreatestNumbersOfAll() {
        for (int sign : new int[] {-1, 1}) {
            TokenBus bus = loop(sign * 10000, -sign * 10000, 100, 100);
            for (int k = 0; k < 3; k++) {
                bus.step();
                looksLike(bus, sign * 10000, sign * 1000);
            }
        }
    }
}
