/** Promise 7: the loops at the end of each step. */
public final class Promise07LoopTest {
    public static void main(String[] args) {
        roundsDown();
        holdsTheLevel();
        holdsTheSum();
        needsPowerAndGains();
        everyStepRunsIt();
        setpointLessInput();
        levelFifteenIsOneOfSixteen();
        everyNodeRunsItsOwn();
        Due.end();
    }

    private static TokenBus controlled(int input, int p, int i) {
        TokenBus bus = Buses.powered(5);
        bus.sense(5, input);
        bus.gains(5, p, i);
        return bus;
    }

    private static void roundsDown() {
        int[][] cases = {{1, 1, 0, -1}, {-1, 1, 0, 0}, {16, 1, 0, -1}, {17, 1, 0, -2}, {-15, 1, 0, 0}, {-16, 1, 0, 1},
            {-31, 1, 0, 1}, {1, 0, 1, -1}, {3, 5, 3, -2}, {0, 7, 7, 0}};
        for (int[] c : cases) {
            TokenBus bus = controlled(c[0], c[1], c[2]);
            bus.step();
            Due.is("level(5, 15) for " + c[0] + ", " + c[1] + ", " + c[2], bus.level(5, 15), c[3]);
            Due.is("set(5, 15)", bus.set(5, 15), true);
        }
    }

    private static void holdsTheLevel() {
        int[][] cases = {{10000, 100, 100, -1000}, {-10000, 100, 100, 1000}, {-160, 100, 0, 1000},
            {-159, 100, 0, 993}, {160, 100, 0, -1000}, {159, 100, 0, -994}, {-161, 100, 0, 1000}};
        for (int[] c : cases) {
            TokenBus bus = controlled(c[0], c[1], c[2]);
            bus.step();
            Due.is("level(5, 15) for " + c[0] + ", " + c[1] + ", " + c[2], bus.level(5, 15), c[3]);
        }
    }

    private static void holdsTheSum() {
        for (int sign : new int[] {-1, 1}) {
            TokenBus bus = controlled(-sign * 6000, 0, 1);
            bus.step();
            Due.is("node(5, 7)", bus.node(5, 7), sign * 6000);
            bus.step();
            Due.is("node(5, 7)", bus.node(5, 7), sign * 10000);
            Due.is("level(5, 15)", bus.level(5, 15), sign * 625);
            bus.sense(5, sign * 1);
            bus.step();
            Due.is("node(5, 7), from the held sum on", bus.node(5, 7), sign * 9999);
        }
    }

    private static void needsPowerAndGains() {
        TokenBus off = new TokenBus();
        off.sense(5, 100);
        off.gains(5, 16, 16);
        off.step();
        Due.is("set(5, 15)", off.set(5, 15), false);
        Due.is("node(5, 7)", off.node(5, 7), 0);
        TokenBus none = controlled(100, 0, 0);
        none.step();
        Due.is("set(5, 15)", none.set(5, 15), false);
        Due.is("node(5, 7)", none.node(5, 7), 0);
        TokenBus onlyP = controlled(100, 16, 0);
        Buses.steps(onlyP, 2);
        Due.is("level(5, 15)", onlyP.level(5, 15), -100);
        Due.is("node(5, 7), which grows with P alone, too", onlyP.node(5, 7), -200);
        onlyP.gains(5, 0, 0);
        onlyP.step();
        Due.is("level(5, 15), which stays", onlyP.level(5, 15), -100);
    }

    private static void everyStepRunsIt() {
        TokenBus bus = Buses.ring(0, 1);
        bus.gains(1, 1, 0);
        bus.sense(1, -1);
        int sum = 0;
        bus.request(0, 1, 1, 0);
        for (int k = 0; k < 12; k++) {
            bus.step();
            sum++;
            Due.is("node(1, 7)", bus.node(1, 7), sum);
        }
    }

    private static void setpointLessInput() {
        TokenBus bus = Buses.ring(0, 1);
        bus.sense(1, -10000);
        bus.gains(1, 1, 0);
        Buses.ask(bus, 1, Buses.what(Buses.WRITE, 2, 0), 10000);
        Due.is("level(1, 15) in the step of the writing", bus.level(1, 15), 1000);
        Due.is("node(1, 7)", bus.node(1, 7), 10000);
        bus.sense(1, 9984);
        bus.step();
        Due.is("level(1, 15)", bus.level(1, 15), 1);
    }

    private static void levelFifteenIsOneOfSixteen() {
        TokenBus bus = Buses.ring(0, 1);
        bus.sense(1, -32);
        bus.gains(1, 1, 0);
        Buses.ask(bus, 1, Buses.what(Buses.WRITE, 1, 16), 900);
        Due.is("value(1, 1)", bus.value(1, 1), 2);
        Buses.ask(bus, 1, Buses.what(Buses.WRITE, 1, 14), 800);
        Due.is("value(1, 1)", bus.value(1, 1), 800);
        Due.is("level(1, 15)", bus.level(1, 15), 2);
        Buses.stepUntilTokenComes(bus, 0);
        Buses.ask(bus, 1, Buses.what(Buses.RELEASE, 1, 15), 0);
        Due.is("set(1, 15), filled again at the end", bus.set(1, 15), true);
        Buses.ask(bus, 1, Buses.what(Buses.WRITE, 1, 15), 5);
        Due.is("level(1, 15), overwritten at the end", bus.level(1, 15), 2);
    }

    private static void everyNodeRunsItsOwn() {
        TokenBus bus = Buses.powered(0, 1, 2, 3, 4, 5);
        for (int n = 0; n < 6; n++) {
            bus.sense(n, -16 * n);
            bus.gains(n, 1 + n, 0);
        }
        bus.step();
        for (int n = 0; n < 6; n++) {
            Due.is("level(" + n + ", 15)", bus.level(n, 15), n * (1 + n));
        }
    }
}
