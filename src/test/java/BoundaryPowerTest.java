import java.util.function.Supplier;

/** Promise 2 at its boundaries, and what the section Terms says of getting power. */
public final class BoundaryPowerTest {
    public static void main(String[] args) {
        falseWhenThereIsNoSuchNode();
        falseWhenItIsSoAlready();
        everyNodeFromFirstToLast();
        thenThereIsNoHolderAndTheSilenceIsZero();
        anotherNodesPowerLeavesTheTokenAlone();
        nextAndPolledBecomeItself();
        countSumAndSubscriptionsAreGone();
        Due.end();
    }

    /** "False when there is no such node". */
    private static void falseWhenThereIsNoSuchNode() {
        for (int n : Edge.outside(0, 5)) {
            Unchanged.falseInEveryState("power(" + n + ", true)", bus -> bus.power(n, true));
            Unchanged.falseInEveryState("power(" + n + ", false)", bus -> bus.power(n, false));
        }
    }

    /** "or it is so already". */
    private static void falseWhenItIsSoAlready() {
        for (Supplier<TokenBus> state : States.ALL) {
            for (int n = 0; n < 6; n++) {
                int node = n;
                boolean on = state.get().node(n, 0) == 1;
                Unchanged.in(state, "power(" + n + ", " + on + ")", bus -> bus.power(node, on) ? 1 : 0, 0);
            }
        }
    }

    /** "Node n gets power, or loses it": 0 and 5 are nodes, and so are those between. */
    private static void everyNodeFromFirstToLast() {
        for (int n = 0; n < 6; n++) {
            TokenBus bus = new TokenBus();
            for (boolean on : new boolean[] {true, false, true}) {
                Due.is("power(" + n + ", " + on + ")", bus.power(n, on), true);
                for (int k = 0; k < 6; k++) {
                    Due.is("node(" + k + ", 0)", bus.node(k, 0), k == n && on ? 1 : 0);
                }
            }
        }
    }

    /** "then, if it is the holder, there is none, and the silence is 0". */
    private static void thenThereIsNoHolderAndTheSilenceIsZero() {
        for (int n = 0; n < 6; n++) {
            TokenBus bus = Buses.powered(n);
            Buses.steps(bus, 4 + 2 * n);
            Due.is("holder()", bus.holder(), n);
            Due.is("power(" + n + ", false)", bus.power(n, false), true);
            Due.is("holder()", bus.holder(), -1);
            Due.is("phase()", bus.phase(), -1);
            Due.is("total(3)", bus.total(3), 0);
            bus.step();
            Due.is("total(3)", bus.total(3), 1);
        }
    }

    /** It has to be the holder: its neighbours on either side are not, and without a holder there is none. */
    private static void anotherNodesPowerLeavesTheTokenAlone() {
        for (int other : new int[] {1, 3}) {
            TokenBus bus = Buses.ring(1, 2, 3);
            Buses.stepUntilTokenComes(bus, 2);
            bus.power(other, false);
            Due.is("holder()", bus.holder(), 2);
            Due.is("phase()", bus.phase(), Buses.USE);
            bus.power(other, true);
            Due.is("holder()", bus.holder(), 2);
        }
        TokenBus silent = Buses.powered(2, 5);
        Buses.steps(silent, 7);
        silent.power(5, false);
        Due.is("total(3) when there was no holder", silent.total(3), 7);
        silent.power(5, true);
        Due.is("total(3)", silent.total(3), 7);
        silent.power(2, false);
        Due.is("total(3) when the least one goes", silent.total(3), 7);
    }

    /** "When a node gets power, its next and polled become itself": when it gets it, not when it loses it. */
    private static void nextAndPolledBecomeItself() {
        TokenBus joined = Buses.ring(0, 5);
        joined.power(5, false);
        Due.is("node(5, 1)", joined.node(5, 1), 0);
        joined.power(5, true);
        Due.is("node(5, 1)", joined.node(5, 1), 5);
        TokenBus polling = Buses.powered(5);
        Buses.steps(polling, 14 + 1);
        polling.power(5, false);
        Due.is("node(5, 2)", polling.node(5, 2), 0);
        polling.power(5, true);
        Due.is("node(5, 2)", polling.node(5, 2), 5);
    }

    /** "its count 0, its loop's SUM 0, the subscriptions to its objects are gone; everything else stays". */
    private static void countSumAndSubscriptionsAreGone() {
        TokenBus bus = Buses.ring(0, 1, 2);
        for (int asker = 1; asker <= 2; asker++) {
            Buses.stepUntilTokenComes(bus, asker);
            Buses.ask(bus, 0, Buses.what(Buses.SUBSCRIBE, 0, 0), 0);
            Buses.ask(bus, 0, Buses.what(Buses.SUBSCRIBE, asker == 1 ? 1 : 0, 0), 0);
        }
        Buses.ask(bus, 0, Buses.what(Buses.WRITE, 2, 0), 10000);
        bus.sense(0, -10000);
        bus.gains(0, 100, 100);
        Buses.stepUntilCountIsThree(bus, 0);
        bus.request(0, 1, 1, 0);
        int tokens = bus.node(0, 5);
        int[] before = {1, 1, 0, 3, 1, tokens, 3, 10000};
        int[] behind = {1, 0, 0, 0, 1, tokens, 0, 0};
        for (int what = 0; what < 8; what++) {
            Due.is("node(0, " + what + ")", bus.node(0, what), before[what]);
        }
        int[] values = {bus.value(0, 0), bus.value(0, 1), bus.value(0, 2)};
        bus.power(0, false);
        for (int what = 1; what < 8; what++) {
            Due.is("node(0, " + what + ") without power", bus.node(0, what), before[what]);
        }
        bus.power(0, true);
        for (int what = 0; what < 8; what++) {
            Due.is("node(0, " + what + ") with power again", bus.node(0, what), behind[what]);
        }
        for (int o = 0; o < 3; o++) {
            Due.is("value(0, " + o + ")", bus.value(0, o), values[o]);
        }
        bus.step();
        Due.is("node(0, 7), its gains having stayed", bus.node(0, 7), 10000);
    }
}
