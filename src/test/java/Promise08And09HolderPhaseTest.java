/** Promises 8 and 9: holder and phase. */
public final class Promise08And09HolderPhaseTest {
    public static void main(String[] args) {
        TokenBus bus = Buses.powered(1, 4);
        both(bus, -1, -1);
        Buses.steps(bus, 5);
        both(bus, -1, -1);
        bus.step();
        both(bus, 1, Buses.SEARCH);
        Buses.steps(bus, 2);
        both(bus, 1, Buses.SEARCH);
        bus.step();
        both(bus, 1, Buses.PASS);
        bus.step();
        both(bus, 4, Buses.USE);
        bus.step();
        both(bus, 4, Buses.USE);
        bus.power(1, false);
        both(bus, 4, Buses.USE);
        bus.power(4, false);
        both(bus, -1, -1);
        bus.power(4, true);
        both(bus, -1, -1);
        everyHolder();
        pollEndsWithItsStep();
        Due.end();
    }

    private static void both(TokenBus bus, int holder, int phase) {
        Due.is("holder()", bus.holder(), holder);
        Due.is("phase()", bus.phase(), phase);
    }

    private static void everyHolder() {
        TokenBus bus = Buses.ring(0, 1, 2, 3, 4, 5);
        for (int n = 0; n < 6; n++) {
            both(bus, n, Buses.USE);
            bus.step();
        }
        both(bus, 0, Buses.USE);
    }

    private static void pollEndsWithItsStep() {
        TokenBus bus = Buses.powered(0, 3);
        for (int k = 0; k < 80; k++) {
            bus.step();
            Due.is("phase() is POLL", bus.phase() == 1, false);
        }
    }
}
