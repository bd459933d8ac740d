/** Promise 7: subscriptions, when they are due and how their notices go. */
public final class Promise07SubscriptionTest {
    private static final int ON_INPUT = Buses.what(Buses.SUBSCRIBE, 0, 0);
    private static final int ON_OUTPUT = Buses.what(Buses.SUBSCRIBE, 1, 0);

    public static void main(String[] args) {
        dueFromTenOn();
        dueByExactNumbers();
        dueOnlyAsTheLastStepLeftIt();
        noticeCarriesTheValueOfItsTime();
        lostNoticeIsNotSentAgain();
        atMostThree();
        repeatedSubscriptionIsRenewed();
        renewalKeepsItsPlace();
        firstDueGoesFirst();
        goneWithNewPower();
        ofTheAskingNode();
        Due.end();
    }

    /** Node 0 has subscribed to an object of node 1, which has the token next. */
    private static TokenBus subscribed(int what) {
        TokenBus bus = Buses.ring(0, 1);
        Due.is("request(0, 1, what, 0)", Buses.ask(bus, 1, what, 0), 0);
        Due.is("state(0)", bus.state(0), 1);
        return bus;
    }

    private static void dueFromTenOn() {
        for (int value : new int[] {-11, -10, -9, 0, 9, 10, 11}) {
            TokenBus bus = subscribed(ON_INPUT);
            bus.sense(1, value);
            bus.step();
            Due.is("holder()", bus.holder(), 1);
            bus.step();
            boolean sent = Math.abs(value) >= 10;
            Due.is("frame(0, 2) for " + value, bus.frame(0, 2), sent ? 6 : 0);
            Due.is("noted(0, 3)", bus.noted(0, 3), sent ? 1 : 0);
        }
    }

    private static void dueByExactNumbers() {
        int[][] pairs = {{Integer.MIN_VALUE, Integer.MAX_VALUE}, {Integer.MAX_VALUE, Integer.MIN_VALUE},
            {Integer.MIN_VALUE, 0}, {-5, Integer.MAX_VALUE}};
        for (int[] pair : pairs) {
            TokenBus bus = Buses.ring(0, 1);
            Buses.ask(bus, 1, Buses.what(Buses.WRITE, 1, 7), pair[0]);
            Buses.ask(bus, 1, ON_OUTPUT, 0);
            Buses.stepUntilTokenComes(bus, 0);
            Buses.ask(bus, 1, Buses.what(Buses.WRITE, 1, 6), pair[1]);
            Due.is("noted(0, 3)", bus.noted(0, 3), 0);
            Buses.stepUntilTokenComes(bus, 1);
            bus.step();
            Due.is("noted(0, 2) after " + pair[0], bus.noted(0, 2), pair[1]);
            Due.is("noted(0, 3)", bus.noted(0, 3), 1);
        }
    }

    private static void dueOnlyAsTheLastStepLeftIt() {
        TokenBus back = subscribed(ON_INPUT);
        back.sense(1, 50);
        back.step();
        back.sense(1, 3);
        back.request(1, 0, 1, 0);
        back.step();
        Due.is("noted(0, 2): it was due, with the value of now", back.noted(0, 2), 3);
        TokenBus gone = Buses.ring(0, 1, 2);
        Buses.stepUntilTokenComes(gone, 1);
        Buses.ask(gone, 0, ON_INPUT, 0);
        gone.sense(0, 50);
        gone.step();
        gone.sense(0, 9);
        gone.step();
        Due.is("holder()", gone.holder(), 0);
        gone.step();
        Due.is("noted(1, 3): it was not due any more", gone.noted(1, 3), 0);
        TokenBus late = subscribed(ON_INPUT);
        late.step();
        late.sense(1, 50);
        late.step();
        Due.is("noted(0, 3): not before a step has ended", late.noted(0, 3), 0);
    }

    private static void noticeCarriesTheValueOfItsTime() {
        TokenBus bus = subscribed(ON_INPUT);
        bus.sense(1, 15);
        bus.step();
        bus.sense(1, -300);
        Due.is("step()", bus.step(), 1);
        int[] due = {85, 255, 6, 0, 1, 0, 8, -1, 5, 0, 0, 0, 255, 255, 254, 212};
        for (int i = 0; i < due.length; i++) {
            if (due[i] >= 0) {
                Due.is("frame(0, " + i + ")", bus.frame(0, i), due[i]);
            }
        }
        Due.is("frame(0, -1)", bus.frame(0, -1), 18);
        Due.is("noted(0, 2)", bus.noted(0, 2), -300);
        Due.is("step(), nothing being due", bus.step(), 1);
        Due.is("frame(0, 2)", bus.frame(0, 2), 0);
        bus.sense(1, -309);
        Buses.stepUntilTokenComes(bus, 1);
        bus.step();
        Due.is("noted(0, 3)", bus.noted(0, 3), 1);
        bus.sense(1, -310);
        Buses.stepUntilTokenComes(bus, 1);
        bus.step();
        Due.is("noted(0, 3)", bus.noted(0, 3), 2);
    }

    private static void lostNoticeIsNotSentAgain() {
        TokenBus bus = subscribed(ON_INPUT);
        bus.sense(1, 40);
        bus.step();
        bus.spoil(0, 12, 1);
        Due.is("step()", bus.step(), 1);
        Due.is("frame(0, 2)", bus.frame(0, 2), 6);
        Due.is("noted(0, 3)", bus.noted(0, 3), 0);
        bus.step();
        Due.is("frame(0, 2)", bus.frame(0, 2), 0);
        TokenBus off = subscribed(ON_INPUT);
        off.sense(1, 40);
        off.step();
        off.power(0, false);
        off.step();
        Due.is("frame(0, 2)", off.frame(0, 2), 6);
        Due.is("noted(0, 3)", off.noted(0, 3), 0);
        Due.is("node(1, 6)", off.node(1, 6), 1);
    }

    private static void atMostThree() {
        TokenBus bus = Buses.ring(0, 1, 2, 3);
        int[] objects = {0, 1, 0, 1};
        int[] askers = {1, 1, 2, 2};
        for (int k = 0; k < 4; k++) {
            if (bus.holder() != askers[k]) {
                Buses.stepUntilTokenComes(bus, askers[k]);
            }
            Buses.ask(bus, 0, Buses.what(Buses.SUBSCRIBE, objects[k], 0), 7);
            Due.is("state(" + k + ")", bus.state(k), k < 3 ? 1 : 2);
            Due.is("answer(" + k + ")", bus.answer(k), k < 3 ? 7 : 0);
            Due.is("node(0, 6)", bus.node(0, 6), Math.min(k + 1, 3));
        }
        Buses.stepUntilTokenComes(bus, 1);
        Buses.ask(bus, 0, ON_OUTPUT, 8);
        Due.is("state(4): one of the three again", bus.state(4), 1);
        Buses.ask(bus, 2, ON_OUTPUT, 8);
        Due.is("state(5): another node's room", bus.state(5), 1);
    }

    private static void repeatedSubscriptionIsRenewed() {
        TokenBus bus = subscribed(ON_INPUT);
        bus.sense(1, 40);
        Buses.ask(bus, 1, ON_INPUT, 0);
        Due.is("state(1)", bus.state(1), 1);
        Due.is("node(1, 6)", bus.node(1, 6), 1);
        bus.step();
        Due.is("holder()", bus.holder(), 1);
        bus.step();
        Due.is("noted(0, 3)", bus.noted(0, 3), 0);
        TokenBus output = subscribed(ON_INPUT);
        Buses.ask(output, 1, ON_OUTPUT, 0);
        Due.is("node(1, 6): another object is another one", output.node(1, 6), 2);
    }

    /** Nodes 1 and 2 subscribe to node 0's input, in this order, and 1 does so again. */
    private static void renewalKeepsItsPlace() {
        TokenBus bus = Buses.ring(0, 1, 2);
        for (int asker : new int[] {1, 2, 1}) {
            Buses.stepUntilTokenComes(bus, asker);
            Buses.ask(bus, 0, ON_INPUT, 0);
        }
        Due.is("node(0, 6)", bus.node(0, 6), 2);
        bus.sense(0, 20);
        Buses.stepUntilTokenComes(bus, 0);
        bus.step();
        Due.is("frame(0, 3)", bus.frame(0, 3), 1);
        bus.step();
        Due.is("frame(0, 3)", bus.frame(0, 3), 2);
    }

    private static void firstDueGoesFirst() {
        TokenBus bus = Buses.ring(0, 1, 2);
        Buses.stepUntilTokenComes(bus, 2);
        Buses.ask(bus, 0, ON_INPUT, 0);
        Buses.stepUntilTokenComes(bus, 1);
        Buses.ask(bus, 0, ON_OUTPUT, 0);
        Buses.ask(bus, 0, ON_INPUT, 0);
        bus.sense(0, 20);
        Buses.stepUntilTokenComes(bus, 0);
        for (int to : new int[] {2, 1}) {
            bus.step();
            Due.is("frame(0, 2)", bus.frame(0, 2), 6);
            Due.is("frame(0, 3)", bus.frame(0, 3), to);
            Due.is("frame(0, 10)", bus.frame(0, 10), 0);
        }
        bus.gains(0, 16, 0);
        Buses.stepUntilTokenComes(bus, 0);
        bus.step();
        Due.is("frame(0, 3)", bus.frame(0, 3), 1);
        Due.is("frame(0, 10)", bus.frame(0, 10), 1);
        Due.is("noted(1, 1)", bus.noted(1, 1), 1);
        Due.is("noted(1, 2)", bus.noted(1, 2), -20);
        Due.is("noted(1, 3)", bus.noted(1, 3), 2);
    }

    private static void goneWithNewPower() {
        TokenBus bus = subscribed(ON_INPUT);
        bus.sense(1, 40);
        bus.power(1, false);
        bus.power(1, true);
        Due.is("node(1, 6)", bus.node(1, 6), 0);
        Buses.stepUntilTokenComes(bus, 1);
        bus.step();
        Due.is("frame(0, 2): a POLL, its next being itself", bus.frame(0, 2), 1);
        TokenBus again = subscribed(ON_INPUT);
        again.power(0, false);
        again.power(0, true);
        Due.is("node(1, 6): the subscriber's power is another matter", again.node(1, 6), 1);
    }

    private static void ofTheAskingNode() {
        TokenBus bus = subscribed(ON_INPUT);
        Due.is("node(0, 6)", bus.node(0, 6), 0);
        Due.is("node(1, 6)", bus.node(1, 6), 1);
        bus.sense(0, 90);
        Buses.stepUntilTokenComes(bus, 0);
        bus.step();
        Due.is("noted(1, 3)", bus.noted(1, 3), 0);
        Due.is("noted(0, 3)", bus.noted(0, 3), 0);
    }
}
