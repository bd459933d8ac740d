/** Promise 7: the phase USE, without what the services do. */
public final class Promise07UseTest {
    public static void main(String[] args) {
        twoInOneUse();
        onePerStep();
        nothingToSend();
        lostTriesCountAsSent();
        givenUpAfterThreeTries();
        lostAnswersCountAsTries();
        triesAreCountedPerRequest();
        askGotBeforeIsNotDoneAgain();
        askGotBeforeIsAnsweredAlike();
        askGotBeforeOutlivesPower();
        aloneItSendsAgainAfterPolling();
        noticesGoFirst();
        Due.end();
    }

    private static void twoInOneUse() {
        TokenBus bus = Buses.ring(0, 1);
        for (int k = 0; k < 3; k++) {
            bus.request(0, 1, 1, 0);
        }
        Due.is("step()", bus.step(), 2);
        Due.is("step()", bus.step(), 2);
        Due.is("phase()", bus.phase(), Buses.USE);
        Due.is("step()", bus.step(), 1);
        Due.is("frame(0, 2)", bus.frame(0, 2), 0);
        Due.is("holder()", bus.holder(), 1);
        Due.is("state(2)", bus.state(2), 0);
        Due.is("step()", bus.step(), 1);
        Due.is("step()", bus.step(), 2);
        Due.is("state(2)", bus.state(2), 1);
    }

    private static void onePerStep() {
        TokenBus bus = Buses.ring(0, 1);
        bus.request(0, 1, 1, 0);
        bus.request(0, 1, 1, 0);
        bus.step();
        Due.is("state(0)", bus.state(0), 1);
        Due.is("state(1)", bus.state(1), 0);
        Due.is("holder()", bus.holder(), 0);
        Due.is("phase()", bus.phase(), Buses.USE);
    }

    private static void nothingToSend() {
        TokenBus bus = Buses.ring(0, 1);
        Due.is("step()", bus.step(), 1);
        Due.is("holder()", bus.holder(), 1);
        bus.request(0, 1, 1, 0);
        Due.is("step(): only the holder sends", bus.step(), 1);
        Due.is("frame(0, 2)", bus.frame(0, 2), 0);
    }

    private static void lostTriesCountAsSent() {
        TokenBus bus = Buses.ring(0, 1);
        bus.request(0, 4, 1, 0);
        Due.is("step()", bus.step(), 1);
        Due.is("frame(0, 2)", bus.frame(0, 2), 5);
        Due.is("step()", bus.step(), 1);
        Due.is("frame(0, 2)", bus.frame(0, 2), 5);
        Due.is("step()", bus.step(), 1);
        Due.is("frame(0, 2)", bus.frame(0, 2), 0);
        Due.is("holder()", bus.holder(), 1);
    }

    private static void givenUpAfterThreeTries() {
        TokenBus bus = Buses.ring(0, 1);
        bus.request(0, 4, 1, 0);
        bus.request(0, 1, 1, 0);
        Buses.steps(bus, 2);
        Due.is("state(0)", bus.state(0), 0);
        Due.is("node(0, 4)", bus.node(0, 4), 2);
        Buses.stepUntilTokenComes(bus, 0);
        Due.is("state(0)", bus.state(0), 0);
        bus.step();
        Due.is("state(0)", bus.state(0), 3);
        Due.is("node(0, 4)", bus.node(0, 4), 1);
        bus.step();
        Due.is("state(1)", bus.state(1), 1);
    }

    private static void lostAnswersCountAsTries() {
        TokenBus bus = Buses.ring(0, 1);
        bus.request(0, 1, Buses.what(Buses.WRITE, 1, 2), 6);
        for (int k = 0; k < 2; k++) {
            bus.spoil(1, 0, 1);
            Due.is("step()", bus.step(), 2);
        }
        Buses.stepUntilTokenComes(bus, 0);
        bus.spoil(1, 0, 1);
        Due.is("step()", bus.step(), 2);
        Due.is("state(0)", bus.state(0), 3);
        Due.is("answer(0)", bus.answer(0), 0);
        Due.is("level(1, 2)", bus.level(1, 2), 6);
    }

    private static void triesAreCountedPerRequest() {
        TokenBus bus = Buses.ring(0, 1);
        bus.request(0, 1, 1, 0);
        bus.request(0, 1, 1, 0);
        bus.spoil(0, 0, 1);
        bus.step();
        bus.step();
        Due.is("state(0)", bus.state(0), 1);
        Buses.stepUntilTokenComes(bus, 0);
        for (int k = 0; k < 2; k++) {
            bus.spoil(k, 0, 1);
            bus.step();
            Due.is("state(1)", bus.state(1), 0);
        }
        Buses.stepUntilTokenComes(bus, 0);
        bus.spoil(0, 0, 1);
        bus.step();
        Due.is("state(1) the third time", bus.state(1), 3);
    }

    private static void askGotBeforeIsNotDoneAgain() {
        TokenBus bus = Buses.ring(0, 1);
        bus.request(0, 1, Buses.what(Buses.WRITE, 1, 2), 6);
        bus.spoil(1, 16, 1);
        bus.step();
        Due.is("level(1, 2)", bus.level(1, 2), 6);
        bus.step();
        Due.is("state(0)", bus.state(0), 1);
        TokenBus released = Buses.ring(0, 1, 2);
        released.request(0, 1, Buses.what(Buses.WRITE, 1, 2), 6);
        for (int k = 0; k < 2; k++) {
            released.spoil(1, 16, 1);
            released.step();
        }
        Buses.stepUntilTokenComes(released, 2);
        Buses.ask(released, 1, Buses.what(Buses.RELEASE, 1, 2), 0);
        Due.is("set(1, 2)", released.set(1, 2), false);
        Buses.stepUntilTokenComes(released, 0);
        released.step();
        Due.is("state(0)", released.state(0), 1);
        Due.is("answer(0)", released.answer(0), 6);
        Due.is("set(1, 2), not written again", released.set(1, 2), false);
    }

    private static void askGotBeforeIsAnsweredAlike() {
        TokenBus bus = Buses.ring(0, 1);
        bus.sense(1, 11);
        bus.request(0, 1, Buses.what(Buses.READ, 0, 0), 0);
        bus.spoil(1, 16, 1);
        bus.step();
        bus.sense(1, 22);
        bus.step();
        Due.is("answer(0)", bus.answer(0), 11);
        TokenBus wrong = Buses.ring(0, 1, 2, 3);
        for (int asker = 1; asker <= 2; asker++) {
            Buses.stepUntilTokenComes(wrong, asker);
            Buses.ask(wrong, 0, Buses.what(Buses.SUBSCRIBE, 0, 0), 0);
            Buses.ask(wrong, 0, Buses.what(Buses.SUBSCRIBE, 1, 0), 0);
        }
        Due.is("state(3): a fourth subscription", wrong.state(3), 2);
        Buses.stepUntilTokenComes(wrong, 3);
        wrong.request(3, 0, Buses.what(Buses.SUBSCRIBE, 0, 0), 0);
        wrong.spoil(1, 9, 1);
        wrong.step();
        wrong.power(0, false);
        wrong.power(0, true);
        Due.is("node(0, 6)", wrong.node(0, 6), 0);
        wrong.step();
        Due.is("state(4): in error as before", wrong.state(4), 2);
        Due.is("node(0, 6)", wrong.node(0, 6), 0);
    }

    private static void askGotBeforeOutlivesPower() {
        TokenBus bus = Buses.ring(0, 1);
        bus.request(0, 1, Buses.what(Buses.SUBSCRIBE, 0, 0), 3);
        bus.spoil(1, 16, 1);
        bus.step();
        bus.power(1, false);
        bus.power(1, true);
        bus.step();
        Due.is("state(0)", bus.state(0), 1);
        Due.is("answer(0)", bus.answer(0), 3);
        Due.is("node(1, 6)", bus.node(1, 6), 0);
    }

    private static void aloneItSendsAgainAfterPolling() {
        TokenBus bus = Buses.powered(0);
        Buses.steps(bus, 4 + 6);
        Due.is("phase()", bus.phase(), Buses.USE);
        bus.request(0, 1, 1, 0);
        for (int type : new int[] {5, 5, 1, 5, 1, 1}) {
            Due.is("step()", bus.step(), 1);
            Due.is("frame(0, 2)", bus.frame(0, 2), type);
        }
        Due.is("state(0)", bus.state(0), 3);
    }

    private static void noticesGoFirst() {
        TokenBus bus = Buses.ring(0, 1);
        Buses.ask(bus, 1, Buses.what(Buses.SUBSCRIBE, 0, 0), 0);
        bus.sense(1, 10);
        bus.request(1, 0, 1, 0);
        bus.request(1, 0, 1, 0);
        Buses.stepUntilTokenComes(bus, 1);
        Due.is("step()", bus.step(), 1);
        Due.is("frame(0, 2)", bus.frame(0, 2), 6);
        Due.is("step()", bus.step(), 2);
        Due.is("frame(0, 2)", bus.frame(0, 2), 5);
        Due.is("step()", bus.step(), 1);
        Due.is("frame(0, 2)", bus.frame(0, 2), 0);
        Due.is("node(1, 4)", bus.node(1, 4), 1);
    }
}
