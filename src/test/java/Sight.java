/** All that a bus shows, in parts so small that one can be looked at several times within an object's 512 calls. */
final class Sight {
    static final int PARTS = 10;
    private static final int NODES = 6;
    private static final int REQUESTS_IN_A_PART = 20;

    private int[] seen = new int[64];
    private int size = 0;

    private Sight() {
    }

    static int[] part(TokenBus bus, int part) {
        Sight sight = new Sight();
        if (part < NODES) {
            sight.lookAtNode(bus, part);
        } else if (part == NODES) {
            sight.lookAtToken(bus);
        } else {
            sight.lookAtRequests(bus, REQUESTS_IN_A_PART * (part - NODES - 1));
        }
        return java.util.Arrays.copyOf(sight.seen, sight.size);
    }

    static int[] node(TokenBus bus, int n) {
        return part(bus, n);
    }

    /** Reports each place where two parts differ. */
    static void same(String call, int[] with, int[] without) {
        Due.is(call + ": how much is seen", with.length, without.length);
        for (int k = 0; k < Math.min(with.length, without.length); k++) {
            Due.is(call + ": what is seen at place " + k, with[k], without[k]);
        }
    }

    private void lookAtNode(TokenBus bus, int n) {
        for (int what = 0; what < 8; what++) {
            add(bus.node(n, what));
        }
        for (int o = 0; o < 3; o++) {
            add(bus.value(n, o));
        }
        for (int l = 1; l <= 16; l++) {
            add(bus.level(n, l));
            add(bus.set(n, l) ? 1 : 0);
        }
        for (int what = 0; what < 4; what++) {
            add(bus.noted(n, what));
        }
    }

    private void lookAtToken(TokenBus bus) {
        add(bus.holder());
        add(bus.phase());
        for (int what = 0; what < 4; what++) {
            add(bus.total(what));
        }
        for (int which = 0; which < 2; which++) {
            for (int i = -1; i < 18; i++) {
                add(bus.frame(which, i));
            }
        }
    }

    private void lookAtRequests(TokenBus bus, int from) {
        for (int r = from; r < from + REQUESTS_IN_A_PART; r++) {
            add(bus.state(r));
            add(bus.answer(r));
        }
    }

    private void add(int number) {
        seen[size] = number;
        size++;
    }
}
