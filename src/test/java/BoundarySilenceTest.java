/** A step without a holder: "the silence is at least 4 + 2 * m", m being the least powered node. */
public final class BoundarySilenceTest {
    public static void main(String[] args) {
        zeroAtFirst();
        atThatSilenceAndNotBefore();
        theLeastOneCounts();
        noNodeIsPowered();
        atLeast();
        theLeastOneChanges();
        fromZeroOnBehindAHolder();
        whatTheNewHolderIs();
        Due.end();
    }

    private static void silenceIs(TokenBus bus, int silence) {
        Due.is("total(3)", bus.total(3), silence);
        Due.is("holder()", bus.holder(), -1);
        Due.is("phase()", bus.phase(), -1);
    }

    private static void foundBy(TokenBus bus, int holder) {
        Due.is("step()", bus.step(), 0);
        Due.is("holder()", bus.holder(), holder);
        Due.is("phase()", bus.phase(), Buses.SEARCH);
        Due.is("total(3)", bus.total(3), 0);
    }

    /** "the SILENCE (0 at first) grows by 1". */
    private static void zeroAtFirst() {
        TokenBus bus = new TokenBus();
        silenceIs(bus, 0);
        bus.step();
        silenceIs(bus, 1);
        bus.step();
        silenceIs(bus, 2);
    }

    private static void atThatSilenceAndNotBefore() {
        for (int m = 0; m < 6; m++) {
            TokenBus bus = Buses.powered(m);
            for (int k = 1; k <= 3 + 2 * m; k++) {
                Due.is("step()", bus.step(), 0);
                silenceIs(bus, k);
            }
            foundBy(bus, m);
            bus.step();
            Due.is("total(3)", bus.total(3), 0);
        }
    }

    private static void theLeastOneCounts() {
        for (int m = 0; m < 5; m++) {
            TokenBus bus = Buses.powered(5, m);
            Buses.steps(bus, 3 + 2 * m);
            silenceIs(bus, 3 + 2 * m);
            foundBy(bus, m);
        }
    }

    /** "if a node is powered": if none is, the silence grows and grows. */
    private static void noNodeIsPowered() {
        TokenBus bus = new TokenBus();
        Buses.steps(bus, 400);
        silenceIs(bus, 400);
        bus.step();
        silenceIs(bus, 401);
    }

    /** "is at least": the node whose time is over when it gets power has the token in the next step. */
    private static void atLeast() {
        for (int m = 0; m < 6; m++) {
            for (int behind = -1; behind < 2; behind++) {
                TokenBus bus = new TokenBus();
                Buses.steps(bus, 3 + 2 * m + behind);
                bus.power(m, true);
                silenceIs(bus, 3 + 2 * m + behind);
                if (behind < 0) {
                    bus.step();
                    silenceIs(bus, 3 + 2 * m);
                }
                foundBy(bus, m);
            }
            TokenBus late = new TokenBus();
            Buses.steps(late, 200);
            late.power(m, true);
            foundBy(late, m);
        }
    }

    private static void theLeastOneChanges() {
        TokenBus lower = Buses.powered(5);
        Buses.steps(lower, 6);
        lower.power(2, true);
        lower.step();
        silenceIs(lower, 7);
        foundBy(lower, 2);
        TokenBus higher = Buses.powered(0, 3);
        Buses.steps(higher, 3);
        higher.power(0, false);
        Buses.steps(higher, 6);
        silenceIs(higher, 9);
        foundBy(higher, 3);
    }

    private static void fromZeroOnBehindAHolder() {
        TokenBus bus = Buses.ring(1, 3);
        bus.power(1, false);
        silenceIs(bus, 0);
        Buses.steps(bus, 9);
        silenceIs(bus, 9);
        foundBy(bus, 3);
    }

    /** "m becomes the holder, its next and polled become itself, the phase is SEARCH": its count and tokens stay. */
    private static void whatTheNewHolderIs() {
        TokenBus bus = Buses.ring(2, 4);
        Buses.stepUntilTokenComes(bus, 2);
        Buses.stepUntilTokenComes(bus, 4);
        bus.power(4, false);
        Due.is("node(2, 1)", bus.node(2, 1), 4);
        Buses.steps(bus, 7);
        foundBy(bus, 2);
        int[] due = {1, 2, 2, 2, 0, 2, 0, 0};
        for (int what = 0; what < due.length; what++) {
            Due.is("node(2, " + what + ")", bus.node(2, what), due[what]);
        }
        TokenBus polled = Buses.ring(2, 5);
        Buses.stepUntilCountIsThree(polled, 2);
        polled.step();
        Due.is("node(2, 2)", polled.node(2, 2), 3);
        Buses.stepUntilTokenComes(polled, 5);
        polled.power(5, false);
        Buses.steps(polled, 7);
        foundBy(polled, 2);
        Due.is("node(2, 2)", polled.node(2, 2), 2);
    }
}
