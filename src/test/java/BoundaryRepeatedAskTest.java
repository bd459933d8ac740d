/** "When a target gets an ASK that it got before .., the same answer is sent again, and nothing is done." */
public final class BoundaryRepeatedAskTest {
    public static void main(String[] args) {
        lostAsksWereNotGot();
        theSecondAndTheThirdTime();
        readAnswersAsBefore();
        writeIsNotDoneAgain();
        setpointIsNotWrittenAgain();
        releaseIsNotDoneAgain();
        subscribeIsNotDoneAgain();
        fullSubscriptionsStayAnError();
        wrongRequestStaysAnError();
        byTheIdAlone();
        Due.end();
    }

    private static TokenBus asking(int what, int number) {
        TokenBus bus = Buses.ring(0, 1, 2);
        bus.request(0, 1, what, number);
        return bus;
    }

    /** An ASK that did not arrive was not got: what comes later is the first. */
    private static void lostAsksWereNotGot() {
        for (int lost = 0; lost < 3; lost++) {
            TokenBus bus = asking(Buses.what(Buses.READ, 0, 0), 0);
            for (int k = 0; k < lost; k++) {
                bus.sense(1, k);
                Buses.loseFrame(bus);
                Due.is("frame(1, -1)", bus.frame(1, -1), 0);
            }
            if (lost == 2) {
                Buses.stepUntilTokenComes(bus, 0);
            }
            bus.sense(1, 500 + lost);
            bus.step();
            Due.is("state(0)", bus.state(0), 1);
            Due.is("answer(0)", bus.answer(0), 500 + lost);
        }
    }

    /** The answer is the same each time, byte by byte, as often as it is asked for. */
    private static void theSecondAndTheThirdTime() {
        TokenBus bus = asking(Buses.what(Buses.READ, 0, 9), 3);
        bus.sense(1, -10000);
        int[] first = new int[18];
        for (int time = 0; time < 3; time++) {
            bus.spoil(1, 17, 255);
            Due.is("step()", bus.step(), 2);
            for (int i = 0; i < 18; i++) {
                if (time == 0) {
                    first[i] = bus.frame(1, i);
                }
                Due.is("frame(1, " + i + ")", bus.frame(1, i), first[i]);
            }
            bus.sense(1, 10000 - time);
            if (time == 1) {
                Buses.stepUntilTokenComes(bus, 0);
            }
        }
        Due.is("state(0)", bus.state(0), 3);
        Due.is("answer(0)", bus.answer(0), 0);
    }

    private static void readAnswersAsBefore() {
        for (int times = 1; times <= 2; times++) {
            TokenBus bus = asking(Buses.what(Buses.READ, 0, 0), 0);
            bus.sense(1, 11);
            loseAnswers(bus, times);
            bus.sense(1, 22);
            bus.step();
            Due.is("state(0)", bus.state(0), 1);
            Due.is("answer(0)", bus.answer(0), 11);
        }
    }

    private static void loseAnswers(TokenBus bus, int times) {
        for (int k = 0; k < times; k++) {
            Buses.loseAnswer(bus);
        }
        Due.is("state(0)", bus.state(0), 0);
        if (times == 2) {
            Buses.stepUntilTokenComes(bus, 0);
        }
    }

    /** Between the first and the third time, node 2 does something of its own at node 1. */
    private static TokenBus meanwhile(int what, int number, int otherWhat, int otherNumber) {
        TokenBus bus = asking(what, number);
        Buses.loseAnswer(bus);
        Buses.loseAnswer(bus);
        Buses.stepUntilTokenComes(bus, 2);
        int other = Buses.ask(bus, 1, otherWhat, otherNumber);
        Due.is("state of what is done meanwhile", bus.state(other), 1);
        Buses.stepUntilTokenComes(bus, 0);
        bus.step();
        Due.is("state(0)", bus.state(0), 1);
        Due.is("answer(0)", bus.answer(0), number);
        return bus;
    }

    private static void writeIsNotDoneAgain() {
        for (int level : new int[] {1, 16}) {
            int write = Buses.what(Buses.WRITE, 1, level);
            TokenBus written = meanwhile(write, 5, write, 6);
            Due.is("level(1, " + level + ")", written.level(1, level), 6);
            TokenBus released = meanwhile(write, 5, Buses.what(Buses.RELEASE, 1, level), 6);
            Due.is("set(1, " + level + ")", released.set(1, level), false);
        }
    }

    private static void setpointIsNotWrittenAgain() {
        int write = Buses.what(Buses.WRITE, 2, 0);
        TokenBus bus = meanwhile(write, -10000, write, 10000);
        Due.is("value(1, 2)", bus.value(1, 2), 10000);
    }

    private static void releaseIsNotDoneAgain() {
        TokenBus bus = meanwhile(Buses.what(Buses.RELEASE, 1, 4), 5, Buses.what(Buses.WRITE, 1, 4), 6);
        Due.is("level(1, 4)", bus.level(1, 4), 6);
        Due.is("set(1, 4)", bus.set(1, 4), true);
    }

    /** Done again, it would take the input's value of then, and no notice would be due. */
    private static void subscribeIsNotDoneAgain() {
        TokenBus bus = asking(Buses.what(Buses.SUBSCRIBE, 0, 0), 9);
        Buses.loseAnswer(bus);
        Due.is("node(1, 6)", bus.node(1, 6), 1);
        bus.sense(1, 10);
        bus.step();
        Due.is("state(0)", bus.state(0), 1);
        Due.is("node(1, 6)", bus.node(1, 6), 1);
        Buses.stepUntilTokenComes(bus, 1);
        bus.step();
        Due.is("noted(0, 2)", bus.noted(0, 2), 10);
        Due.is("noted(0, 3)", bus.noted(0, 3), 1);
    }

    private static void fullSubscriptionsStayAnError() {
        TokenBus bus = Buses.ring(0, 1, 2, 3);
        Buses.stepUntilTokenComes(bus, 2);
        Buses.ask(bus, 1, Buses.what(Buses.SUBSCRIBE, 0, 0), 0);
        Buses.ask(bus, 1, Buses.what(Buses.SUBSCRIBE, 1, 0), 0);
        Buses.stepUntilTokenComes(bus, 3);
        Buses.ask(bus, 1, Buses.what(Buses.SUBSCRIBE, 0, 0), 0);
        int fourth = bus.request(3, 1, Buses.what(Buses.SUBSCRIBE, 1, 0), 0);
        Buses.loseAnswer(bus);
        bus.power(1, false);
        bus.power(1, true);
        Due.is("node(1, 6): there is room now", bus.node(1, 6), 0);
        Buses.stepUntilTokenComes(bus, 3);
        bus.step();
        Due.is("state of the fourth", bus.state(fourth), 2);
        Due.is("node(1, 6)", bus.node(1, 6), 0);
    }

    private static void wrongRequestStaysAnError() {
        TokenBus bus = asking(Buses.what(Buses.WRITE, 2, 0), 10001);
        Buses.loseAnswer(bus);
        bus.step();
        Due.is("frame(1, 8)", bus.frame(1, 8), 64 + 2);
        Due.is("state(0)", bus.state(0), 2);
        Due.is("value(1, 2)", bus.value(1, 2), 0);
    }

    /** "by the id": a request of the same words with another number is another one, and is done. */
    private static void byTheIdAlone() {
        TokenBus bus = Buses.ring(0, 1);
        bus.sense(1, 1);
        Buses.ask(bus, 1, Buses.what(Buses.READ, 0, 0), 0);
        bus.sense(1, 2);
        Buses.ask(bus, 1, Buses.what(Buses.READ, 0, 0), 0);
        Due.is("answer(0)", bus.answer(0), 1);
        Due.is("answer(1)", bus.answer(1), 2);
    }
}
