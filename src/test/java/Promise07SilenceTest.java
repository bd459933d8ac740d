/** Promise 7: steps without a holder. */
public final class Promise07SilenceTest {
    public static void main(String[] args) {
        eachNodeWaitsItsTime();
        leastNodeCounts();
        silenceGrowsWithoutPower();
        lostTokenIsMadeAnew();
        newTokenForgetsWhoWasPolled();
        Due.end();
    }

    private static void eachNodeWaitsItsTime() {
        for (int m = 0; m < 6; m++) {
            TokenBus bus = Buses.powered(m);
            for (int k = 1; k < 4 + 2 * m; k++) {
                Due.is("step()", bus.step(), 0);
                Due.is("holder()", bus.holder(), -1);
                Due.is("total(3)", bus.total(3), k);
            }
            Due.is("step()", bus.step(), 0);
            Due.is("holder()", bus.holder(), m);
            Due.is("phase()", bus.phase(), Buses.SEARCH);
            Due.is("total(3)", bus.total(3), 0);
            Due.is("total(1)", bus.total(1), 0);
            Due.is("node(m, 5)", bus.node(m, 5), 0);
        }
    }

    private static void leastNodeCounts() {
        TokenBus bus = Buses.powered(5, 1, 3);
        Buses.steps(bus, 6);
        Due.is("holder()", bus.holder(), 1);
        TokenBus late = Buses.powered(5);
        Buses.steps(late, 9);
        late.power(0, true);
        late.step();
        Due.is("holder()", late.holder(), 0);
    }

    private static void silenceGrowsWithoutPower() {
        TokenBus bus = new TokenBus();
        Buses.steps(bus, 30);
        Due.is("total(3)", bus.total(3), 30);
        bus.power(5, true);
        bus.step();
        Due.is("holder()", bus.holder(), 5);
        Due.is("total(3)", bus.total(3), 0);
    }

    private static void newTokenForgetsWhoWasPolled() {
        TokenBus bus = Buses.ring(0, 3);
        for (int k = 0; k < 3; k++) {
            Buses.stepUntilTokenComes(bus, 0);
        }
        bus.step();
        Due.is("holder()", bus.holder(), 3);
        Due.is("node(0, 2)", bus.node(0, 2), 1);
        bus.power(3, false);
        Buses.steps(bus, 4);
        Due.is("holder()", bus.holder(), 0);
        Due.is("node(0, 2)", bus.node(0, 2), 0);
        bus.step();
        Due.is("frame(0, 3)", bus.frame(0, 3), 1);
    }

    private static void lostTokenIsMadeAnew() {
        TokenBus bus = Buses.ring(0, 1, 2);
        bus.step();
        Due.is("holder()", bus.holder(), 1);
        bus.power(1, false);
        Buses.steps(bus, 3);
        Due.is("holder()", bus.holder(), -1);
        Due.is("node(0, 1)", bus.node(0, 1), 1);
        bus.step();
        Due.is("holder()", bus.holder(), 0);
        Due.is("phase()", bus.phase(), Buses.SEARCH);
        Due.is("node(0, 1)", bus.node(0, 1), 0);
        Due.is("node(0, 2)", bus.node(0, 2), 0);
        Due.is("node(0, 3), which stays", bus.node(0, 3), 1);
        Due.is("node(0, 5), which stays", bus.node(0, 5), 1);
        Due.is("step() asks 1 in vain", bus.step(), 1);
        Due.is("step() finds 2", bus.step(), 2);
        Due.is("node(0, 1)", bus.node(0, 1), 2);
    }
}
