/** Promises 11, 12 and 13: value, level and set. */
public final class Promise11To13OutputTest {
    public static void main(String[] args) {
        noSuchThing();
        leastLevelCounts();
        zeroIsNotEmpty();
        anyInt();
        threeObjects();
        releasedIsEmpty();
        Due.end();
    }

    private static TokenBus written(int level, int number) {
        TokenBus bus = Buses.ring(0, 1);
        Buses.ask(bus, 1, Buses.what(Buses.WRITE, 1, level), number);
        return bus;
    }

    private static void noSuchThing() {
        TokenBus bus = written(1, 5);
        Buses.ask(bus, 1, Buses.what(Buses.WRITE, 1, 16), 6);
        bus.sense(1, 7);
        for (int o : new int[] {-1, 3, 4, Integer.MIN_VALUE, Integer.MAX_VALUE}) {
            Due.is("value(1, " + o + ")", bus.value(1, o), 0);
        }
        for (int l : new int[] {-1, 0, 17, Integer.MIN_VALUE, Integer.MAX_VALUE}) {
            Due.is("level(1, " + l + ")", bus.level(1, l), 0);
            Due.is("set(1, " + l + ")", bus.set(1, l), false);
        }
        for (int n : new int[] {-1, 6, Integer.MIN_VALUE, Integer.MAX_VALUE}) {
            Due.is("value(" + n + ", 0)", bus.value(n, 0), 0);
            Due.is("level(" + n + ", 1)", bus.level(n, 1), 0);
            Due.is("set(" + n + ", 1)", bus.set(n, 1), false);
        }
        Due.is("level(1, 1)", bus.level(1, 1), 5);
        Due.is("level(1, 16)", bus.level(1, 16), 6);
        Due.is("value(1, 0)", bus.value(1, 0), 7);
    }

    private static void leastLevelCounts() {
        TokenBus bus = Buses.ring(0, 1);
        int[] levels = {9, 16, 4, 1};
        int[] values = {109, 109, 104, 101};
        for (int k = 0; k < levels.length; k++) {
            if (bus.holder() != 0 || k == 2) {
                Buses.stepUntilTokenComes(bus, 0);
            }
            Buses.ask(bus, 1, Buses.what(Buses.WRITE, 1, levels[k]), 100 + levels[k]);
            Due.is("value(1, 1)", bus.value(1, 1), values[k]);
        }
        for (int l = 1; l <= 16; l++) {
            boolean filled = l == 1 || l == 4 || l == 9 || l == 16;
            Due.is("set(1, " + l + ")", bus.set(1, l), filled);
            Due.is("level(1, " + l + ")", bus.level(1, l), filled ? 100 + l : 0);
        }
    }

    private static void zeroIsNotEmpty() {
        TokenBus bus = written(3, 0);
        Buses.ask(bus, 1, Buses.what(Buses.WRITE, 1, 4), 12);
        Due.is("set(1, 3)", bus.set(1, 3), true);
        Due.is("level(1, 3)", bus.level(1, 3), 0);
        Due.is("value(1, 1)", bus.value(1, 1), 0);
    }

    private static void anyInt() {
        for (int number : new int[] {Integer.MIN_VALUE, Integer.MAX_VALUE, -1}) {
            TokenBus bus = written(8, number);
            Due.is("level(1, 8)", bus.level(1, 8), number);
            Due.is("value(1, 1)", bus.value(1, 1), number);
        }
    }

    /** The loop's value is its setpoint, whatever its sum and its level are. */
    private static void threeObjects() {
        TokenBus bus = written(3, 21);
        Buses.ask(bus, 1, Buses.what(Buses.WRITE, 2, 0), -22);
        bus.sense(1, 20);
        bus.gains(1, 16, 16);
        Buses.steps(bus, 2);
        Due.is("value(1, 0)", bus.value(1, 0), 20);
        Due.is("value(1, 1)", bus.value(1, 1), 21);
        Due.is("value(1, 2)", bus.value(1, 2), -22);
        Due.is("level(1, 15)", bus.level(1, 15), -42 - 84);
        for (int o = 0; o < 3; o++) {
            Due.is("value(0, " + o + ")", bus.value(0, o), 0);
        }
    }

    private static void releasedIsEmpty() {
        TokenBus bus = written(3, 21);
        Buses.ask(bus, 1, Buses.what(Buses.RELEASE, 1, 3), 4);
        Due.is("level(1, 3)", bus.level(1, 3), 0);
        Due.is("set(1, 3)", bus.set(1, 3), false);
        Due.is("value(1, 1)", bus.value(1, 1), 0);
    }
}
