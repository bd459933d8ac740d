/** Promise 2: power. */
public final class Promise02PowerTest {
    public static void main(String[] args) {
        refusals();
        onAndOff();
        whatGettingPowerResets();
        polledBecomesItself();
        whatLosingPowerKeeps();
        holderLosesPower();
        anotherLosesPower();
        Due.end();
    }

    private static void refusals() {
        TokenBus bus = new TokenBus();
        for (int n : new int[] {-1, 6, Integer.MIN_VALUE, Integer.MAX_VALUE}) {
            Due.is("power(" + n + ", true)", bus.power(n, true), false);
            Due.is("power(" + n + ", false)", bus.power(n, false), false);
        }
        for (int n = 0; n < 6; n++) {
            Due.is("power(" + n + ", false)", bus.power(n, false), false);
        }
        Buses.steps(bus, 20);
        Due.is("holder()", bus.holder(), -1);
    }

    private static void onAndOff() {
        TokenBus bus = new TokenBus();
        for (int n = 0; n < 6; n++) {
            Due.is("power(" + n + ", true)", bus.power(n, true), true);
            Due.is("node(" + n + ", 0)", bus.node(n, 0), 1);
            Due.is("power(" + n + ", true)", bus.power(n, true), false);
            Due.is("power(" + n + ", false)", bus.power(n, false), true);
            Due.is("node(" + n + ", 0)", bus.node(n, 0), 0);
            Due.is("power(" + n + ", false)", bus.power(n, false), false);
        }
    }

    /** Node 0 of a ring with node 2, with subscriptions, a queue, levels, gains and a notice. */
    private static TokenBus busy() {
        TokenBus bus = Buses.ring(0, 2);
        Buses.ask(bus, 2, Buses.what(Buses.SUBSCRIBE, 0, 0), 0);
        Buses.stepUntilTokenComes(bus, 2);
        Buses.ask(bus, 0, Buses.what(Buses.SUBSCRIBE, 1, 0), 0);
        Buses.ask(bus, 0, Buses.what(Buses.WRITE, 1, 3), 44);
        bus.sense(2, 50);
        Buses.stepUntilTokenComes(bus, 0);
        Buses.stepUntilTokenComes(bus, 2);
        Buses.stepUntilTokenComes(bus, 0);
        bus.gains(0, 0, 16);
        bus.sense(0, -7);
        bus.request(0, 4, 1, 0);
        bus.request(0, 4, 1, 0);
        bus.step();
        return bus;
    }

    private static void whatGettingPowerResets() {
        TokenBus bus = busy();
        Due.is("node(0, 3)", bus.node(0, 3), 3);
        Due.is("node(0, 6)", bus.node(0, 6), 1);
        Due.is("node(0, 7)", bus.node(0, 7), 7);
        bus.power(0, false);
        bus.power(0, true);
        int[] due = {1, 0, 0, 0, 2, 3, 0, 0};
        for (int what = 0; what < due.length; what++) {
            Due.is("node(0, " + what + ")", bus.node(0, what), due[what]);
        }
        Due.is("value(0, 0)", bus.value(0, 0), -7);
        Due.is("level(0, 3)", bus.level(0, 3), 44);
        Due.is("level(0, 15)", bus.level(0, 15), 7);
        Due.is("noted(0, 2)", bus.noted(0, 2), 50);
        Due.is("noted(0, 3)", bus.noted(0, 3), 1);
        Due.is("node(2, 6)", bus.node(2, 6), 1);
        bus.step();
        Due.is("node(0, 7), its gains having stayed", bus.node(0, 7), 7);
    }

    private static void polledBecomesItself() {
        TokenBus bus = Buses.powered(2);
        Buses.steps(bus, 8 + 2);
        bus.power(2, false);
        Due.is("node(2, 2)", bus.node(2, 2), 4);
        bus.power(2, true);
        Due.is("node(2, 2)", bus.node(2, 2), 2);
    }

    private static void whatLosingPowerKeeps() {
        TokenBus bus = busy();
        bus.power(0, false);
        int[] due = {0, 2, 0, 3, 2, 3, 1, 7};
        for (int what = 0; what < due.length; what++) {
            Due.is("node(0, " + what + ")", bus.node(0, what), due[what]);
        }
        Due.is("value(0, 1)", bus.value(0, 1), 44);
    }

    private static void holderLosesPower() {
        TokenBus bus = Buses.ring(0, 2);
        Due.is("power(0, false)", bus.power(0, false), true);
        Due.is("holder()", bus.holder(), -1);
        Due.is("phase()", bus.phase(), -1);
        Due.is("total(3)", bus.total(3), 0);
        bus.power(0, true);
        Due.is("holder()", bus.holder(), -1);
    }

    private static void anotherLosesPower() {
        TokenBus ring = Buses.ring(0, 2);
        ring.power(2, false);
        Due.is("holder()", ring.holder(), 0);
        TokenBus silent = Buses.powered(3, 4);
        Buses.steps(silent, 3);
        silent.power(3, false);
        Due.is("total(3)", silent.total(3), 3);
    }
}
