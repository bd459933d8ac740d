/** The phase USE at its boundaries. */
public final class BoundaryUseTest {
    private static final int TOKEN = 0;
    private static final int POLL = 1;
    private static final int ASK = 5;
    private static final int TELL = 6;

    public static void main(String[] args) {
        whenItHasSentTwo();
        whenThereIsNothingToSend();
        noticesAndRequestsTogether();
        lostFramesAreSentToo();
        ifItsCountIsThree();
        ifItsNextIsItself();
        whenThatWasTheThirdTime();
        theThirdTimeMayCome();
        eachRequestHasThreeTimes();
        Due.end();
    }

    private static void types(TokenBus bus, int... due) {
        for (int k = 0; k < due.length; k++) {
            bus.step();
            Due.is("frame(0, 2) of step " + k, bus.frame(0, 2), due[k]);
        }
    }

    /** "when it has sent 2 in this use": one, two, three and four requests. */
    private static void whenItHasSentTwo() {
        int[][] due = {{TOKEN}, {ASK, TOKEN}, {ASK, ASK, TOKEN}, {ASK, ASK, TOKEN}, {ASK, ASK, TOKEN}};
        for (int many = 0; many <= 4; many++) {
            TokenBus bus = Buses.ring(0, 1);
            for (int k = 0; k < many; k++) {
                bus.request(0, 1, 1, 0);
            }
            types(bus, due[many]);
            Due.is("holder()", bus.holder(), 1);
            Due.is("node(0, 4)", bus.node(0, 4), Math.max(0, many - 2));
            Buses.stepUntilTokenComes(bus, 0);
            types(bus, due[Math.max(0, many - 2)]);
        }
    }

    /** "or there is nothing to send": then the same step goes on; what comes later waits for the next use. */
    private static void whenThereIsNothingToSend() {
        TokenBus bus = Buses.ring(0, 1);
        bus.request(0, 1, 1, 0);
        bus.step();
        Due.is("holder()", bus.holder(), 0);
        Due.is("phase()", bus.phase(), Buses.USE);
        bus.request(0, 1, 1, 0);
        types(bus, ASK, TOKEN);
        bus.request(0, 1, 1, 0);
        types(bus, TOKEN, ASK, TOKEN);
    }

    /** Notices and requests are counted together, and notices go first. */
    private static void noticesAndRequestsTogether() {
        for (int notices = 0; notices <= 2; notices++) {
            for (int requests = 0; requests <= 2; requests++) {
                TokenBus bus = Buses.ring(0, 1);
                Buses.ask(bus, 1, Buses.what(Buses.SUBSCRIBE, 0, 0), 0);
                Buses.ask(bus, 1, Buses.what(Buses.SUBSCRIBE, 1, 0), 0);
                for (int k = 0; k < requests; k++) {
                    bus.request(1, 0, 1, 0);
                }
                bus.sense(1, notices > 0 ? 10 : 9);
                bus.gains(1, notices > 1 ? 16 : 0, 0);
                Buses.stepUntilTokenComes(bus, 1);
                int asks = Math.min(requests, 2 - notices);
                for (int k = 0; k < notices + asks; k++) {
                    types(bus, k < notices ? TELL : ASK);
                }
                types(bus, TOKEN);
                Due.is("noted(0, 3)", bus.noted(0, 3), notices);
                Due.is("node(1, 4)", bus.node(1, 4), requests - asks);
            }
        }
    }

    /** "counted as sent then", whether it arrives or not. */
    private static void lostFramesAreSentToo() {
        for (int which = 0; which < 2; which++) {
            TokenBus bus = Buses.ring(0, 1);
            bus.request(0, 1, 1, 0);
            for (int k = 0; k < 2; k++) {
                bus.spoil(which, 0, 1);
                types(bus, ASK);
            }
            types(bus, TOKEN);
            Due.is("node(0, 4)", bus.node(0, 4), 1);
        }
    }

    /** "on with POLL, if its count is 3 or more": not at 2. */
    private static void ifItsCountIsThree() {
        TokenBus bus = Buses.ring(0, 3);
        for (int count = 1; count <= 3; count++) {
            Due.is("holder()", bus.holder(), 0);
            Due.is("node(0, 3)", bus.node(0, 3), count);
            types(bus, count < 3 ? TOKEN : POLL);
            Due.is("node(0, 3)", bus.node(0, 3), count < 3 ? count : 0);
            if (count < 3) {
                Buses.stepUntilTokenComes(bus, 0);
            }
        }
        TokenBus sending = Buses.ring(0, 3);
        Buses.stepUntilCountIsThree(sending, 0);
        for (int k = 0; k < 3; k++) {
            sending.request(0, 3, 1, 0);
        }
        types(sending, ASK, ASK, POLL, TOKEN);
    }

    /** "or its next is itself": then its count may be 0. */
    private static void ifItsNextIsItself() {
        TokenBus bus = Buses.powered(3);
        Buses.steps(bus, 10 + 6);
        Due.is("phase()", bus.phase(), Buses.USE);
        Due.is("node(3, 3)", bus.node(3, 3), 0);
        Due.is("node(3, 1)", bus.node(3, 1), 3);
        types(bus, POLL, POLL);
        bus.request(3, 0, 1, 0);
        types(bus, ASK, ASK, POLL, ASK, POLL, POLL);
    }

    /** "otherwise the request was tried once more, and when that was the third time, it is given up, and leaves". */
    private static void whenThatWasTheThirdTime() {
        for (int kinds = 0; kinds < 8; kinds++) {
            TokenBus bus = Buses.ring(0, 1);
            bus.request(0, 1, Buses.what(Buses.WRITE, 1, 1), 4);
            for (int time = 0; time < 3; time++) {
                Due.is("state(0) before time " + time, bus.state(0), 0);
                Due.is("node(0, 4)", bus.node(0, 4), 1);
                if ((kinds >> time & 1) == 0) {
                    Buses.loseFrame(bus);
                } else {
                    Buses.loseAnswer(bus);
                }
                if (time == 1) {
                    Buses.stepUntilTokenComes(bus, 0);
                }
            }
            Due.is("state(0)", bus.state(0), 3);
            Due.is("answer(0)", bus.answer(0), 0);
            Due.is("node(0, 4)", bus.node(0, 4), 0);
            Due.is("set(1, 1)", bus.set(1, 1), kinds != 0);
            types(bus, TOKEN);
        }
    }

    private static void theThirdTimeMayCome() {
        for (int lost = 0; lost < 3; lost++) {
            TokenBus bus = Buses.ring(0, 1);
            bus.request(0, 1, Buses.what(Buses.WRITE, 1, 1), 4);
            for (int k = 0; k < lost; k++) {
                Buses.loseFrame(bus);
            }
            if (lost == 2) {
                Buses.stepUntilTokenComes(bus, 0);
            }
            bus.step();
            Due.is("state(0) behind " + lost + " lost", bus.state(0), 1);
            Due.is("answer(0)", bus.answer(0), 4);
            Due.is("node(0, 4)", bus.node(0, 4), 0);
        }
    }

    /** The request behind one that was tried begins with no time of its own, and takes its place when that leaves. */
    private static void eachRequestHasThreeTimes() {
        TokenBus bus = Buses.ring(0, 1);
        bus.request(0, 4, 1, 0);
        bus.request(0, 5, 1, 0);
        int[][] due = {{0, 0, 2}, {0, 0, 2}, {3, 0, 1}, {3, 0, 1}, {3, 0, 1}, {3, 3, 0}};
        for (int k = 0; k < due.length; k++) {
            if (k == 2 || k == 4) {
                Buses.stepUntilTokenComes(bus, 0);
            }
            types(bus, ASK);
            Due.is("frame(0, 3)", bus.frame(0, 3), k < 3 ? 4 : 5);
            Due.is("state(0) behind " + k, bus.state(0), due[k][0]);
            Due.is("state(1) behind " + k, bus.state(1), due[k][1]);
            Due.is("node(0, 4) behind " + k, bus.node(0, 4), due[k][2]);
        }
    }
}
