import java.util.List;
import java.util.function.Supplier;

/** Buses in every kind of state, each with as much as can be that a refused call might change. */
final class States {
    static final List<Supplier<TokenBus>> ALL = List.of(TokenBus::new, States::silent, States::busy, States::asking,
        States::passing, States::searching);

    private States() {
    }

    /** Three steps of silence, one loop running, a request waiting, a byte of the next step's answer to be spoilt. */
    static TokenBus silent() {
        TokenBus bus = Buses.powered(3, 4);
        bus.sense(4, 77);
        bus.gains(4, 5, 6);
        bus.request(3, 4, Buses.what(Buses.WRITE, 1, 2), 9);
        Buses.steps(bus, 3);
        bus.spoil(1, 7, 255);
        return bus;
    }

    /**
     * Node 0 of a ring with 1 and 4 has the token and has sent one notice in this use; another is due, its queue is
     * full, its loop runs, node 4 has noted, and a byte of the next frame is to be spoilt.
     */
    static TokenBus busy() {
        TokenBus bus = Buses.ring(0, 1, 4);
        Buses.stepUntilTokenComes(bus, 4);
        Buses.ask(bus, 0, Buses.what(Buses.SUBSCRIBE, 1, 0), 0);
        Buses.ask(bus, 1, Buses.what(Buses.WRITE, 1, 9), 500);
        bus.gains(0, 0, 16);
        bus.sense(0, -300);
        Buses.stepUntilTokenComes(bus, 0);
        for (int k = 0; k < 4; k++) {
            bus.request(0, 1 + 3 * (k % 2), Buses.what(Buses.WRITE, 1, 2 + k), k);
        }
        bus.step();
        Due.is("noted(4, 3) of the busy bus", bus.noted(4, 3), 1);
        bus.spoil(0, 2, 9);
        return bus;
    }

    /** Node 1 got node 0's request twice, and both answers were lost; the third is to be lost, too. */
    static TokenBus asking() {
        TokenBus bus = Buses.ring(0, 1);
        bus.request(0, 1, Buses.what(Buses.WRITE, 1, 7), 70);
        bus.request(0, 1, Buses.what(Buses.RELEASE, 1, 7), 71);
        for (int k = 0; k < 2; k++) {
            bus.spoil(1, 16, 1);
            bus.step();
        }
        Buses.stepUntilTokenComes(bus, 0);
        bus.spoil(1, 16, 1);
        return bus;
    }

    /** Node 1's token to node 4 was lost once, and will be lost again. */
    static TokenBus passing() {
        TokenBus bus = Buses.ring(1, 4);
        Buses.loseFrame(bus);
        Due.is("phase() of the passing bus", bus.phase(), Buses.PASS);
        bus.spoil(0, 7, 1);
        return bus;
    }

    /** Node 1 of a ring with 4 searches for another successor. */
    static TokenBus searching() {
        TokenBus bus = Buses.ring(1, 4);
        bus.power(0, true);
        Buses.loseFrame(bus);
        Buses.loseFrame(bus);
        Due.is("phase() of the searching bus", bus.phase(), Buses.SEARCH);
        return bus;
    }

    /** Sixty requests were made; nodes 2 to 5, which have no power, have four each, and nodes 0 and 1 none. */
    static TokenBus sixtyMade() {
        return made(60);
    }

    /** As many requests were made, 16 to 60 of them; nodes 2 to 5 have four each, and nodes 0 and 1 none. */
    static TokenBus made(int many) {
        TokenBus bus = Buses.ring(0, 1);
        int last = -1;
        for (int k = 0; k < 16; k++) {
            last = bus.request(2 + k / 4, 0, 1, 0);
        }
        for (int k = 0; last < many - 1 && k < 60; k++) {
            last = Math.max(last, bus.request(k % 2, 1 - k % 2, 1, 0));
            bus.step();
            bus.step();
        }
        Buses.steps(bus, 12);
        Due.is("total(2)", bus.total(2), many);
        Due.is("node(0, 4)", bus.node(0, 4), 0);
        Due.is("node(1, 4)", bus.node(1, 4), 0);
        return bus;
    }
}
