/** Buses in states that many tests begin with, and the codes that they speak of. */
final class Buses {
    static final int USE = 0;
    static final int PASS = 2;
    static final int SEARCH = 3;

    static final int READ = 1;
    static final int WRITE = 2;
    static final int RELEASE = 3;
    static final int SUBSCRIBE = 4;

    private Buses() {
    }

    /** What a request's "what" is for a service, an object and a level. */
    static int what(int service, int object, int level) {
        return service + 8 * object + 64 * level;
    }

    static TokenBus powered(int... nodes) {
        TokenBus bus = new TokenBus();
        for (int n : nodes) {
            bus.power(n, true);
        }
        return bus;
    }

    static void steps(TokenBus bus, int many) {
        for (int k = 0; k < many; k++) {
            bus.step();
        }
    }

    /** A closed ring of these nodes (in rising order), its first one having got the token by a frame for the first time. */
    static TokenBus ring(int... nodes) {
        TokenBus bus = powered(nodes);
        int first = nodes[0];
        for (int k = 0; k < 60 && bus.node(first, 5) == 0; k++) {
            bus.step();
        }
        Due.is("the ring's holder", bus.holder(), first);
        for (int k = 0; k < nodes.length; k++) {
            Due.is("next in the ring", bus.node(nodes[k], 1), nodes[(k + 1) % nodes.length]);
        }
        return bus;
    }

    /** Steps until node n is the holder in USE with nothing sent, by a TOKEN frame that comes to it. */
    static void stepUntilTokenComes(TokenBus bus, int n) {
        int tokens = bus.node(n, 5);
        for (int k = 0; k < 60 && bus.node(n, 5) == tokens; k++) {
            bus.step();
        }
        Due.is("the token's holder", bus.holder(), n);
    }

    /** Makes a request of the holder and the one step that sends it: answers the request's number. */
    static int ask(TokenBus bus, int target, int what, int value) {
        int r = bus.request(bus.holder(), target, what, value);
        bus.step();
        return r;
    }

    /** A step whose first frame is lost. */
    static void loseFrame(TokenBus bus) {
        bus.spoil(0, 7, 32);
        bus.step();
    }

    /** A step whose second frame is lost. */
    static void loseAnswer(TokenBus bus) {
        bus.spoil(1, 7, 32);
        bus.step();
    }

    /** Steps until node n has got the token for the third time since it polled: it is in USE, and POLL is near. */
    static void stepUntilCountIsThree(TokenBus bus, int n) {
        for (int k = 0; k < 60 && (bus.holder() != n || bus.node(n, 3) < 3); k++) {
            bus.step();
        }
        Due.is("node(" + n + ", 3)", bus.node(n, 3), 3);
    }
}
