/** Promise 7: the phases PASS and SEARCH. */
public final class Promise07PassTest {
    public static void main(String[] args) {
        tokenComes();
        secondTryMayCome();
        triesBeginAnewInEachPhase();
        twoLostTokensMakeASearch();
        searchFindsTheNextButOne();
        searchFindsNone();
        searchFindsTheOldNextAgainOnlyByPolling();
        lostFramesOfASearch();
        useBeginsAnewWithTheToken();
        Due.end();
    }

    private static void tokenComes() {
        TokenBus bus = Buses.ring(1, 4);
        int tokens = bus.node(4, 5);
        int count = bus.node(4, 3);
        Due.is("step()", bus.step(), 1);
        Due.is("frame(0, 2)", bus.frame(0, 2), 0);
        Due.is("frame(0, 3)", bus.frame(0, 3), 4);
        Due.is("frame(0, 4)", bus.frame(0, 4), 1);
        Due.is("holder()", bus.holder(), 4);
        Due.is("phase()", bus.phase(), Buses.USE);
        Due.is("node(4, 5)", bus.node(4, 5), tokens + 1);
        Due.is("node(4, 3)", bus.node(4, 3), count + 1);
        Due.is("node(1, 5)", bus.node(1, 5), 1);
    }

    private static void loseNext(TokenBus bus) {
        bus.spoil(0, 7, 32);
        bus.step();
    }

    private static void secondTryMayCome() {
        TokenBus bus = Buses.ring(1, 4);
        loseNext(bus);
        Due.is("holder()", bus.holder(), 1);
        Due.is("phase()", bus.phase(), Buses.PASS);
        Due.is("node(1, 1)", bus.node(1, 1), 4);
        Due.is("step()", bus.step(), 1);
        Due.is("holder()", bus.holder(), 4);
        Due.is("node(1, 1)", bus.node(1, 1), 4);
    }

    private static void triesBeginAnewInEachPhase() {
        TokenBus bus = Buses.ring(0, 1);
        for (int k = 0; k < 4; k++) {
            loseNext(bus);
            Due.is("phase()", bus.phase(), Buses.PASS);
            bus.step();
            Due.is("phase()", bus.phase(), Buses.USE);
        }
    }

    private static void twoLostTokensMakeASearch() {
        TokenBus bus = Buses.ring(1, 4);
        loseNext(bus);
        loseNext(bus);
        Due.is("holder()", bus.holder(), 1);
        Due.is("phase()", bus.phase(), Buses.SEARCH);
        Due.is("node(1, 1)", bus.node(1, 1), 1);
        Due.is("node(1, 2)", bus.node(1, 2), 4);
        Due.is("total(3)", bus.total(3), 0);
    }

    private static void searchFindsTheNextButOne() {
        TokenBus bus = Buses.ring(0, 2, 4);
        bus.power(2, false);
        Due.is("step()", bus.step(), 1);
        Due.is("step()", bus.step(), 1);
        Due.is("phase()", bus.phase(), Buses.SEARCH);
        Due.is("step()", bus.step(), 1);
        Due.is("frame(0, 2)", bus.frame(0, 2), 1);
        Due.is("frame(0, 3)", bus.frame(0, 3), 3);
        Due.is("node(0, 2)", bus.node(0, 2), 3);
        Due.is("phase()", bus.phase(), Buses.SEARCH);
        Due.is("step()", bus.step(), 2);
        Due.is("node(0, 1)", bus.node(0, 1), 4);
        Due.is("node(0, 2)", bus.node(0, 2), 0);
        Due.is("phase()", bus.phase(), Buses.PASS);
        Due.is("step()", bus.step(), 1);
        Due.is("holder()", bus.holder(), 4);
    }

    private static void searchFindsNone() {
        TokenBus bus = Buses.ring(1, 4);
        bus.power(4, false);
        Buses.steps(bus, 2);
        for (int to : new int[] {5, 0}) {
            Due.is("step()", bus.step(), 1);
            Due.is("frame(0, 3)", bus.frame(0, 3), to);
            Due.is("phase()", bus.phase(), Buses.SEARCH);
        }
        Due.is("step()", bus.step(), 0);
        Due.is("phase()", bus.phase(), Buses.USE);
        Due.is("holder()", bus.holder(), 1);
        Due.is("node(1, 1)", bus.node(1, 1), 1);
        Due.is("node(1, 2)", bus.node(1, 2), 0);
        Due.is("step()", bus.step(), 1);
        Due.is("frame(0, 3), behind itself", bus.frame(0, 3), 2);
    }

    private static void searchFindsTheOldNextAgainOnlyByPolling() {
        TokenBus bus = Buses.ring(0, 5);
        loseNext(bus);
        loseNext(bus);
        Due.is("step(): behind 5 it is itself", bus.step(), 0);
        Due.is("phase()", bus.phase(), Buses.USE);
        for (int to : new int[] {1, 2, 3, 4}) {
            bus.step();
            Due.is("frame(0, 3)", bus.frame(0, 3), to);
        }
        Due.is("step()", bus.step(), 2);
        Due.is("node(0, 1)", bus.node(0, 1), 5);
    }

    private static void lostFramesOfASearch() {
        for (int which = 0; which < 2; which++) {
            TokenBus bus = Buses.powered(0, 1, 2);
            Buses.steps(bus, 4);
            bus.spoil(which, 4, 3);
            Due.is("step()", bus.step(), 1 + which);
            Due.is("phase()", bus.phase(), Buses.SEARCH);
            Due.is("node(0, 1)", bus.node(0, 1), 0);
            Due.is("node(0, 2)", bus.node(0, 2), 1);
            bus.step();
            Due.is("node(0, 1)", bus.node(0, 1), 2);
        }
    }

    private static void useBeginsAnewWithTheToken() {
        TokenBus bus = Buses.ring(0, 1);
        for (int n = 0; n < 2; n++) {
            for (int k = 0; k < 3; k++) {
                bus.request(n, 1 - n, 1, 0);
            }
        }
        for (int frames : new int[] {2, 2, 1, 2, 2, 1, 2, 1, 2, 1, 1}) {
            Due.is("step()", bus.step(), frames);
        }
    }
}
