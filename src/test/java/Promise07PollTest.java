/** Promise 7: the phase POLL. */
public final class Promise07PollTest {
    public static void main(String[] args) {
        pollsAtTheThirdToken();
        goesRoundTheGap();
        takesANewcomerIn();
        lostFramesKeepTheRing();
        noGapGoesOnWithPass();
        aloneItPollsOnAndOn();
        aloneItFindsOne();
        pollsAfterSending();
        Due.end();
    }

    private static void pollOf(TokenBus bus, int from, int to) {
        Buses.stepUntilTokenComes(bus, from);
        Due.is("node(from, 3)", bus.node(from, 3), 3);
        Due.is("step()", bus.step(), 1);
        Due.is("frame(0, 2)", bus.frame(0, 2), 1);
        Due.is("frame(0, 3)", bus.frame(0, 3), to);
        Due.is("node(from, 2)", bus.node(from, 2), to);
        Due.is("node(from, 3)", bus.node(from, 3), 0);
        Due.is("holder()", bus.holder(), from);
        Due.is("phase()", bus.phase(), Buses.PASS);
    }

    private static void pollsAtTheThirdToken() {
        TokenBus bus = Buses.ring(0, 3);
        Due.is("node(0, 3)", bus.node(0, 3), 1);
        Buses.stepUntilTokenComes(bus, 0);
        Due.is("node(0, 3)", bus.node(0, 3), 2);
        bus.step();
        Due.is("holder() after no poll", bus.holder(), 3);
        pollOf(bus, 0, 1);
        bus.step();
        Due.is("frame(0, 2)", bus.frame(0, 2), 0);
        Due.is("holder()", bus.holder(), 3);
    }

    private static void skipTokens(TokenBus bus, int n, int many) {
        for (int k = 0; k < many; k++) {
            Buses.stepUntilTokenComes(bus, n);
        }
    }

    private static void goesRoundTheGap() {
        TokenBus bus = Buses.ring(0, 3);
        skipTokens(bus, 0, 1);
        for (int to : new int[] {1, 2, 1, 2}) {
            pollOf(bus, 0, to);
            skipTokens(bus, 0, 2);
        }
        TokenBus over = Buses.ring(1, 5);
        Due.is("node(5, 3)", over.node(5, 3), 0);
        skipTokens(over, 5, 2);
        pollOf(over, 5, 0);
        skipTokens(over, 5, 2);
        pollOf(over, 5, 0);
    }

    private static void takesANewcomerIn() {
        TokenBus bus = Buses.ring(0, 3);
        skipTokens(bus, 0, 1);
        pollOf(bus, 0, 1);
        bus.power(2, true);
        skipTokens(bus, 0, 3);
        Due.is("step()", bus.step(), 2);
        Due.is("frame(0, 2)", bus.frame(0, 2), 1);
        Due.is("frame(0, 3)", bus.frame(0, 3), 2);
        Due.is("frame(1, 2)", bus.frame(1, 2), 2);
        Due.is("frame(1, 3)", bus.frame(1, 3), 0);
        Due.is("frame(1, 4)", bus.frame(1, 4), 2);
        Due.is("node(0, 1)", bus.node(0, 1), 2);
        Due.is("node(0, 2)", bus.node(0, 2), 0);
        Due.is("node(2, 1)", bus.node(2, 1), 2);
        Due.is("phase()", bus.phase(), Buses.PASS);
        bus.step();
        Due.is("holder()", bus.holder(), 2);
        Due.is("step()", bus.step(), 2);
        Due.is("node(2, 1)", bus.node(2, 1), 3);
        bus.step();
        Due.is("holder()", bus.holder(), 3);
    }

    private static void lostFramesKeepTheRing() {
        for (int which = 0; which < 2; which++) {
            TokenBus bus = Buses.ring(0, 3);
            skipTokens(bus, 0, 2);
            bus.power(1, true);
            bus.spoil(which, 5, 1);
            Due.is("step()", bus.step(), 1 + which);
            Due.is("node(0, 1)", bus.node(0, 1), 3);
            Due.is("node(0, 2)", bus.node(0, 2), 1);
            Due.is("phase()", bus.phase(), Buses.PASS);
            bus.step();
            Due.is("holder()", bus.holder(), 3);
        }
    }

    private static void noGapGoesOnWithPass() {
        TokenBus bus = Buses.ring(0, 1);
        skipTokens(bus, 0, 2);
        Due.is("node(0, 3)", bus.node(0, 3), 3);
        Due.is("step()", bus.step(), 1);
        Due.is("frame(0, 2)", bus.frame(0, 2), 0);
        Due.is("holder()", bus.holder(), 1);
        Due.is("node(0, 2)", bus.node(0, 2), 0);
        Due.is("node(0, 3)", bus.node(0, 3), 0);
        TokenBus lost = Buses.ring(0, 1);
        skipTokens(lost, 0, 2);
        lost.spoil(0, 0, 1);
        Due.is("step()", lost.step(), 1);
        Due.is("phase()", lost.phase(), Buses.PASS);
        Due.is("node(0, 3)", lost.node(0, 3), 0);
        lost.spoil(0, 0, 1);
        lost.step();
        Due.is("phase()", lost.phase(), Buses.SEARCH);
    }

    private static void aloneItPollsOnAndOn() {
        TokenBus bus = Buses.powered(2);
        Buses.steps(bus, 8 + 6);
        Due.is("phase()", bus.phase(), Buses.USE);
        for (int to : new int[] {3, 4, 5, 0, 1, 3, 4}) {
            Due.is("step()", bus.step(), 1);
            Due.is("frame(0, 3)", bus.frame(0, 3), to);
            Due.is("node(2, 2)", bus.node(2, 2), to);
            Due.is("phase()", bus.phase(), Buses.USE);
        }
    }

    private static void aloneItFindsOne() {
        TokenBus bus = Buses.powered(2);
        Buses.steps(bus, 8 + 6);
        bus.power(3, true);
        Due.is("step()", bus.step(), 2);
        Due.is("phase()", bus.phase(), Buses.PASS);
        Due.is("node(2, 1)", bus.node(2, 1), 3);
        Due.is("node(2, 2)", bus.node(2, 2), 2);
        bus.step();
        Due.is("holder()", bus.holder(), 3);
        Due.is("node(3, 3)", bus.node(3, 3), 1);
        bus.step();
        Due.is("node(3, 3), though it was below 3", bus.node(3, 3), 0);
    }

    private static void pollsAfterSending() {
        TokenBus bus = Buses.ring(0, 3);
        skipTokens(bus, 0, 2);
        bus.request(0, 3, 1, 0);
        Due.is("step()", bus.step(), 2);
        Due.is("node(0, 3)", bus.node(0, 3), 3);
        Due.is("step()", bus.step(), 1);
        Due.is("frame(0, 2)", bus.frame(0, 2), 1);
    }
}
