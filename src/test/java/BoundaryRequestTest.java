/** Promise 5 at its boundaries: "a QUEUE of at most four requests", and requests "at most 60". */
public final class BoundaryRequestTest {
    public static void main(String[] args) {
        refusedWhenThereIsNoSuchNode();
        refusedWhenThereIsNoSuchTarget();
        refusedWhenTheyAreTheSame();
        refusedWhenWhatIsOutOfItsRange();
        whatUpToBothEnds();
        anyValue();
        everyPairOfNodes();
        fullWhenTheQueueHasFour();
        roomWhenOneHasLeft();
        fullWhenSixtyWereMade();
        refusedComesBeforeFull();
        Due.end();
    }

    private static void refused(int n, int target, int what) {
        for (int value : new int[] {0, Integer.MIN_VALUE, Integer.MAX_VALUE}) {
            Unchanged.inEveryState("request(" + n + ", " + target + ", " + what + ", " + value + ")",
                bus -> bus.request(n, target, what, value), TokenBus.REFUSED);
        }
    }

    /** "REFUSED when there is no such node". */
    private static void refusedWhenThereIsNoSuchNode() {
        for (int n : Edge.outside(0, 5)) {
            refused(n, 0, 1);
            refused(n, 5, 2047);
        }
    }

    /** "or target". */
    private static void refusedWhenThereIsNoSuchTarget() {
        for (int target : Edge.outside(0, 5)) {
            refused(1, target, 0);
            refused(5, target, 2047);
        }
    }

    /** "they are the same": also when there is none of that number. */
    private static void refusedWhenTheyAreTheSame() {
        for (int n = -1; n <= 6; n++) {
            refused(n, n, 1);
        }
        refused(Integer.MIN_VALUE, Integer.MIN_VALUE, 1);
        refused(Integer.MAX_VALUE, Integer.MAX_VALUE, 1);
    }

    /** "or what is not 0 .. 2047". */
    private static void refusedWhenWhatIsOutOfItsRange() {
        for (int what : Edge.outside(0, 2047)) {
            refused(1, 0, what);
            refused(4, 5, what);
        }
    }

    /** "service is what % 8, object what / 8 % 8, level what / 64": at and behind each carry. */
    private static void whatUpToBothEnds() {
        for (int what : new int[] {0, 1, 6, 7, 8, 9, 55, 56, 62, 63, 64, 65, 1983, 1984, 2039, 2040, 2046, 2047}) {
            TokenBus bus = Buses.ring(0, 1);
            Due.is("request(0, 1, " + what + ", 0)", bus.request(0, 1, what, 0), 0);
            bus.step();
            Due.is("the service of " + what, bus.frame(0, 8), what & 7);
            Due.is("the object of " + what, bus.frame(0, 10), what >> 3 & 7);
            Due.is("the level of " + what, bus.frame(0, 11), what >> 6);
        }
    }

    /** The value may be any int. */
    private static void anyValue() {
        for (int value : new int[] {Integer.MIN_VALUE, Integer.MIN_VALUE + 1, -1, 0, 1, Integer.MAX_VALUE}) {
            TokenBus bus = Buses.ring(0, 1);
            Due.is("request(0, 1, WRITE, " + value + ")", bus.request(0, 1, Buses.what(Buses.WRITE, 1, 1), value), 0);
            bus.step();
            Due.is("level(1, 1)", bus.level(1, 1), value);
            Due.is("answer(0)", bus.answer(0), value);
        }
    }

    /** "Node n (powered or not, the target too) gets a request .. at the end of its queue. Answers its number". */
    private static void everyPairOfNodes() {
        for (int powered = 0; powered < 4; powered++) {
            for (int n = 0; n < 6; n++) {
                for (int target = 0; target < 6; target++) {
                    if (n != target) {
                        onePair(powered, n, target);
                    }
                }
            }
        }
    }

    private static void onePair(int powered, int n, int target) {
        TokenBus bus = new TokenBus();
        bus.power(n, powered % 2 == 1);
        bus.power(target, powered / 2 == 1);
        Due.is("request(" + n + ", " + target + ", 1, 0)", bus.request(n, target, 1, 0), 0);
        for (int k = 0; k < 6; k++) {
            Due.is("node(" + k + ", 4)", bus.node(k, 4), k == n ? 1 : 0);
        }
        Due.is("state(0)", bus.state(0), 0);
        Due.is("state(1)", bus.state(1), TokenBus.REFUSED);
    }

    /** "then FULL when the queue has four": three leave room, and another node's queue is another one. */
    private static void fullWhenTheQueueHasFour() {
        for (int n = 0; n < 6; n++) {
            int full = n;
            int target = n == 5 ? 0 : n + 1;
            for (int k = 0; k < 4; k++) {
                int have = k;
                Due.is("request(" + n + ", ..) behind " + k, queued(n, have).request(n, target, 1, 0), k);
            }
            Unchanged.in(() -> queued(full, 4), "request(" + n + ", " + target + ", 1, 0)",
                bus -> bus.request(full, target, 1, 0), TokenBus.FULL);
            Due.is("request of the neighbour", queued(n, 4).request(target, n, 1, 0), 4);
        }
        for (int value : new int[] {Integer.MIN_VALUE, Integer.MAX_VALUE}) {
            Unchanged.in(States::busy, "request(0, 1, 2047, " + value + ")",
                bus -> bus.request(0, 1, 2047, value), TokenBus.FULL);
        }
    }

    private static TokenBus queued(int n, int many) {
        TokenBus bus = Buses.powered(0, 1);
        for (int k = 0; k < many; k++) {
            bus.request(n, n == 0 ? 1 : 0, Buses.what(Buses.WRITE, 1, 1 + k), k);
        }
        Due.is("node(" + n + ", 4)", bus.node(n, 4), many);
        return bus;
    }

    /** A request that leaves the queue makes room for one. */
    private static void roomWhenOneHasLeft() {
        TokenBus bus = Buses.ring(0, 1);
        for (int k = 0; k < 4; k++) {
            bus.request(0, 1, 1, 0);
        }
        Due.is("request(0, 1, 1, 0)", bus.request(0, 1, 1, 0), TokenBus.FULL);
        Buses.loseFrame(bus);
        Due.is("request(0, 1, 1, 0), the first being tried", bus.request(0, 1, 1, 0), TokenBus.FULL);
        bus.step();
        Due.is("request(0, 1, 1, 0), the first having left", bus.request(0, 1, 1, 0), 4);
        Due.is("request(0, 1, 1, 0)", bus.request(0, 1, 1, 0), TokenBus.FULL);
    }

    /** "or 60 were made": numbers go from 0 to 59. */
    private static void fullWhenSixtyWereMade() {
        Due.is("request behind 58", States.made(58).request(0, 1, 1, 0), 58);
        TokenBus last = States.made(59);
        Due.is("request behind 59", last.request(0, 1, Buses.what(Buses.WRITE, 1, 6), 66), 59);
        Due.is("total(2)", last.total(2), 60);
        Due.is("state(59)", last.state(59), 0);
        Due.is("request behind 60", last.request(0, 1, 1, 0), TokenBus.FULL);
        for (int k = 0; k < 9 && last.state(59) == 0; k++) {
            last.step();
        }
        Due.is("the id of the last one", last.frame(0, 9), 59);
        Due.is("the id of its answer", last.frame(1, 9), 59);
        Due.is("answer(59)", last.answer(59), 66);
        for (int n = 0; n < 2; n++) {
            int asker = n;
            Unchanged.in(States::sixtyMade, "request(" + n + ", 5, 1, 0)",
                bus -> bus.request(asker, 5, 1, 0), TokenBus.FULL);
        }
        Unchanged.in(States::sixtyMade, "request(5, 1, 1, 0), its queue being full, too",
            bus -> bus.request(5, 1, 1, 0), TokenBus.FULL);
    }

    /** "REFUSED when ..; then FULL": what is wrong in itself is refused, full or not. */
    private static void refusedComesBeforeFull() {
        int[][] wrong = {{0, 0, 1}, {0, -1, 1}, {0, 6, 1}, {0, 1, -1}, {0, 1, 2048}, {-1, 0, 1}, {6, 0, 1},
            {0, Integer.MIN_VALUE, 1}, {0, 1, Integer.MAX_VALUE}};
        for (int[] w : wrong) {
            String call = "request(" + w[0] + ", " + w[1] + ", " + w[2] + ", 0)";
            Unchanged.in(() -> queued(0, 4), call, bus -> bus.request(w[0], w[1], w[2], 0), TokenBus.REFUSED);
            Unchanged.in(States::sixtyMade, call, bus -> bus.request(w[0], w[1], w[2], 0), TokenBus.REFUSED);
        }
    }
}
