/** Subscriptions at their boundaries: how many, when they are due, and which goes first. */
public final class BoundarySubscriptionTest {
    private static final int ON_INPUT = Buses.what(Buses.SUBSCRIBE, 0, 0);
    private static final int ON_OUTPUT = Buses.what(Buses.SUBSCRIBE, 1, 0);

    public static void main(String[] args) {
        atMostThree();
        fourthIsAnErrorAndNothingIsDone();
        oneOfTheThreeAgain();
        roomAgainWithNewPower();
        sameNodeOrSameObjectIsAnother();
        dueFromTenOn();
        dueFromTenOnForOutputs();
        dueByExactNumbers();
        againGetsThatValue();
        againIsNotDue();
        firstInTheOrderInWhichTheyCame();
        notDueAnyMore();
        Due.end();
    }

    /** Nodes 1 to 3 of a ring with node 0 subscribe to its objects, as many as are named: asker 10 times, object once. */
    private static TokenBus subscribed(int... askersAndObjects) {
        TokenBus bus = Buses.ring(0, 1, 2, 3);
        for (int a : askersAndObjects) {
            Buses.stepUntilTokenComes(bus, a / 10);
            int r = Buses.ask(bus, 0, Buses.what(Buses.SUBSCRIBE, a % 10, 0), 7);
            Due.is("state of subscription " + a, bus.state(r), 1);
        }
        return bus;
    }

    /** "a node keeps at most three to its objects": its own, whoever asks. */
    private static void atMostThree() {
        int[][] all = {{10}, {10, 11}, {10, 11, 20}, {10, 20, 30}, {31, 21, 11}};
        for (int[] some : all) {
            TokenBus bus = subscribed(some);
            Due.is("node(0, 6)", bus.node(0, 6), some.length);
            for (int n = 1; n < 4; n++) {
                Due.is("node(" + n + ", 6)", bus.node(n, 6), 0);
            }
        }
    }

    /** "a fourth subscription, is an ERROR, and nothing is done". */
    private static void fourthIsAnErrorAndNothingIsDone() {
        int[][] fourths = {{10, 11, 20, 21}, {10, 20, 30, 11}, {11, 21, 31, 30}};
        for (int[] f : fourths) {
            TokenBus bus = subscribed(f[0], f[1], f[2]);
            Buses.stepUntilTokenComes(bus, f[3] / 10);
            int[] before = Sight.node(bus, 0);
            int r = Buses.ask(bus, 0, Buses.what(Buses.SUBSCRIBE, f[3] % 10, 0), 7);
            Due.is("state of a fourth", bus.state(r), 2);
            Due.is("answer of a fourth", bus.answer(r), 0);
            Sight.same("nothing is done for a fourth", Sight.node(bus, 0), before);
            bus.sense(0, 10);
            Buses.stepUntilTokenComes(bus, 0);
            int sent = 0;
            for (int k = 0; k < 3 && sent < 2; k++) {
                if (f[k] % 10 == 0) {
                    sent++;
                    bus.step();
                    Due.is("the subscriber of before", bus.frame(0, 3), f[k] / 10);
                }
            }
            bus.step();
            Due.is("no other notice", bus.frame(0, 2) == 6, false);
        }
    }

    /** "if the node has one to it already": then it is no fourth. */
    private static void oneOfTheThreeAgain() {
        for (int again : new int[] {10, 11, 20}) {
            TokenBus bus = subscribed(10, 11, 20, again);
            Due.is("node(0, 6)", bus.node(0, 6), 3);
        }
    }

    private static void roomAgainWithNewPower() {
        TokenBus bus = Buses.ring(0, 1);
        Buses.ask(bus, 1, ON_INPUT, 0);
        Buses.ask(bus, 1, ON_OUTPUT, 0);
        Due.is("node(1, 6)", bus.node(1, 6), 2);
        bus.power(1, false);
        Due.is("node(1, 6) without power", bus.node(1, 6), 2);
        bus.power(1, true);
        Due.is("node(1, 6)", bus.node(1, 6), 0);
        Buses.stepUntilTokenComes(bus, 0);
        Buses.ask(bus, 1, ON_OUTPUT, 0);
        Due.is("node(1, 6)", bus.node(1, 6), 1);
        bus.sense(1, 10);
        Buses.stepUntilTokenComes(bus, 1);
        bus.step();
        Due.is("noted(0, 3): the one to the input is gone", bus.noted(0, 3), 0);
    }

    private static void sameNodeOrSameObjectIsAnother() {
        Due.is("node(0, 6)", subscribed(10, 11).node(0, 6), 2);
        Due.is("node(0, 6)", subscribed(10, 20).node(0, 6), 2);
        Due.is("node(0, 6)", subscribed(10, 21).node(0, 6), 2);
        Due.is("node(0, 6)", subscribed(10, 10).node(0, 6), 1);
        Due.is("node(0, 6)", subscribed(11, 11, 11, 11).node(0, 6), 1);
    }

    /** "differs from the subscription's by 10 or more .., and not otherwise": 9, 10 and 11, up and down. */
    private static void dueFromTenOn() {
        for (int from : new int[] {-10000, -5, 0, 5, 10000}) {
            for (int by : new int[] {-20000, -11, -10, -9, -1, 0, 1, 9, 10, 11, 20000}) {
                if (from + by >= -10000 && from + by <= 10000) {
                    inputNoted(from, from + by, Math.abs(by) >= 10);
                }
            }
        }
    }

    private static void inputNoted(int from, int to, boolean due) {
        TokenBus bus = Buses.ring(0, 1);
        bus.sense(1, from);
        Buses.ask(bus, 1, ON_INPUT, 0);
        bus.sense(1, to);
        Buses.stepUntilTokenComes(bus, 1);
        bus.step();
        String call = " from " + from + " to " + to;
        Due.is("noted(0, 3)" + call, bus.noted(0, 3), due ? 1 : 0);
        Due.is("noted(0, 2)" + call, bus.noted(0, 2), due ? to : TokenBus.REFUSED);
    }

    private static void dueFromTenOnForOutputs() {
        int least = Integer.MIN_VALUE;
        int greatest = Integer.MAX_VALUE;
        int[][] pairs = {{least, least + 9, 0}, {least, least + 10, 1}, {least, least + 11, 1},
            {greatest, greatest - 9, 0}, {greatest, greatest - 10, 1}, {greatest, greatest - 11, 1},
            {least + 9, least, 0}, {least + 10, least, 1}, {greatest - 9, greatest, 0}, {greatest - 10, greatest, 1}};
        for (int[] p : pairs) {
            outputNoted(p[0], p[1], p[2] == 1);
        }
    }

    /** "(as exact numbers)": differences that are no ints, and such as would come out small or negative as ints. */
    private static void dueByExactNumbers() {
        int least = Integer.MIN_VALUE;
        int greatest = Integer.MAX_VALUE;
        int[][] pairs = {{least, greatest}, {greatest, least}, {least, 0}, {0, least}, {-1, greatest}, {greatest, -1},
            {greatest, least + 8}, {least + 8, greatest}, {greatest - 4, least + 4}, {1, least}, {least, -1},
            {0, greatest}, {-5, least + 3}};
        for (int[] p : pairs) {
            outputNoted(p[0], p[1], true);
        }
    }

    private static void outputNoted(int from, int to, boolean due) {
        TokenBus bus = Buses.ring(0, 1);
        Buses.ask(bus, 1, Buses.what(Buses.WRITE, 1, 5), from);
        Buses.ask(bus, 1, ON_OUTPUT, 0);
        Buses.stepUntilTokenComes(bus, 0);
        Buses.ask(bus, 1, Buses.what(Buses.WRITE, 1, 5), to);
        Buses.stepUntilTokenComes(bus, 1);
        bus.step();
        String call = " from " + from + " to " + to;
        Due.is("noted(0, 3)" + call, bus.noted(0, 3), due ? 1 : 0);
        Due.is("frame(0, 2)" + call, bus.frame(0, 2), due ? 6 : 0);
        if (due) {
            Due.is("noted(0, 2)" + call, bus.noted(0, 2), to);
        }
    }

    /** "this gets that value": the change is counted from the value of the second time. */
    private static void againGetsThatValue() {
        for (int to : new int[] {34, 35, 44, 45}) {
            TokenBus bus = subscribed(10, 20);
            bus.sense(0, 35);
            Buses.stepUntilTokenComes(bus, 0);
            Buses.steps(bus, 2);
            Due.is("noted(1, 3)", bus.noted(1, 3), 1);
            bus.sense(0, 44);
            Buses.stepUntilTokenComes(bus, 1);
            Buses.ask(bus, 0, ON_INPUT, 0);
            bus.sense(0, to);
            Buses.stepUntilTokenComes(bus, 0);
            Due.is("step()", bus.step(), 1);
            boolean fromFirst = Math.abs(to - 44) >= 10;
            boolean fromOther = Math.abs(to - 35) >= 10;
            Due.is("noted(1, 3) at " + to, bus.noted(1, 3), fromFirst ? 2 : 1);
            Due.is("noted(2, 3) at " + to, bus.noted(2, 3), fromOther ? 2 : 1);
        }
    }

    /** "and is not due": one that was due has nothing to tell when it was made again, and otherwise it has. */
    private static void againIsNotDue() {
        for (int again = 0; again < 2; again++) {
            TokenBus bus = subscribed(10);
            Buses.stepUntilTokenComes(bus, 1);
            bus.sense(0, 90);
            Buses.ask(bus, 0, Buses.what(Buses.READ, 0, 0), 0);
            Buses.ask(bus, 0, again == 1 ? ON_INPUT : Buses.what(Buses.READ, 0, 0), 0);
            Due.is("state(2)", bus.state(2), 1);
            Buses.stepUntilTokenComes(bus, 0);
            bus.step();
            Due.is("noted(1, 3)", bus.noted(1, 3), 1 - again);
        }
    }

    /** "the first of these in the order in which they came": three due, two sent in a use, the third in the next one. */
    private static void firstInTheOrderInWhichTheyCame() {
        int[][] orders = {{10, 20, 30}, {30, 20, 10}, {20, 30, 10}, {30, 10, 20}};
        for (int[] order : orders) {
            TokenBus bus = subscribed(order);
            bus.sense(0, -10);
            Buses.stepUntilTokenComes(bus, 0);
            for (int k = 0; k < 3; k++) {
                if (k == 2) {
                    Due.is("step()", bus.step(), 1);
                    Due.is("no third in this use", bus.frame(0, 2) == 6, false);
                    Buses.stepUntilTokenComes(bus, 0);
                }
                bus.step();
                Due.is("frame(0, 2)", bus.frame(0, 2), 6);
                Due.is("frame(0, 3)", bus.frame(0, 3), order[k] / 10);
            }
            bus.step();
            Due.is("no fourth notice", bus.frame(0, 2) == 6, false);
        }
    }

    /** "that is the subscription's value then, which is not due any more", though it does not arrive. */
    private static void notDueAnyMore() {
        for (int to : new int[] {19, 20, 21}) {
            for (int lost = 0; lost < 2; lost++) {
                TokenBus bus = Buses.ring(0, 1);
                Buses.ask(bus, 1, ON_INPUT, 0);
                bus.sense(1, 10);
                Buses.stepUntilTokenComes(bus, 1);
                if (lost == 1) {
                    bus.spoil(0, 17, 1);
                }
                bus.step();
                Due.is("frame(0, 2)", bus.frame(0, 2), 6);
                Due.is("noted(0, 3)", bus.noted(0, 3), 1 - lost);
                bus.sense(1, to);
                Buses.stepUntilTokenComes(bus, 1);
                bus.step();
                Due.is("noted(0, 3) at " + to, bus.noted(0, 3), 1 - lost + (to >= 20 ? 1 : 0));
            }
        }
    }
}
