/** Promises 8 to 18 at their boundaries: what is answered for a thing that there is not, or that is empty. */
public final class BoundaryAnswersTest {
    public static void main(String[] args) {
        holderAndPhaseWhenThereIsNone();
        nodeOutOfItsRange();
        nodeUpToBothEnds();
        valueOfNoSuchNodeOrObject();
        levelThatIsEmptyOrIsNot();
        stateWhenThereIsNone();
        answerOtherwise();
        notedWhenItHasNotedNone();
        notedOutOfItsRange();
        aNotedValueMayBeAnyInt();
        frameOutOfItsRange();
        frameOfEverySize();
        frameBeforeTheFirstStep();
        totalOutOfItsRange();
        totalsFromZeroOn();
        Due.end();
    }

    /** "-1 when there is none", "-1 when there is no holder": before, behind and after a power loss. */
    private static void holderAndPhaseWhenThereIsNone() {
        TokenBus bus = Buses.powered(0);
        for (int k = 0; k < 4; k++) {
            both(bus, -1, -1);
            bus.step();
        }
        both(bus, 0, Buses.SEARCH);
        bus.power(0, false);
        both(bus, -1, -1);
        for (int n = 0; n < 6; n++) {
            TokenBus other = Buses.powered(n);
            Buses.steps(other, 4 + 2 * n);
            both(other, n, Buses.SEARCH);
        }
    }

    private static void both(TokenBus bus, int holder, int phase) {
        Due.is("holder()", bus.holder(), holder);
        Due.is("phase()", bus.phase(), phase);
    }

    /** "REFUSED when there is no such node, or for any other number." */
    private static void nodeOutOfItsRange() {
        for (int n : Edge.outside(0, 5)) {
            for (int what : new int[] {0, 7, -1, 8}) {
                Unchanged.inEveryState("node(" + n + ", " + what + ")", bus -> bus.node(n, what), TokenBus.REFUSED);
            }
        }
        for (int what : Edge.outside(0, 7)) {
            for (int n : new int[] {0, 5}) {
                Unchanged.inEveryState("node(" + n + ", " + what + ")", bus -> bus.node(n, what), TokenBus.REFUSED);
            }
        }
    }

    /** Of the busy bus: each number for its nodes, the first and the last of both. */
    private static void nodeUpToBothEnds() {
        int[][] due = {{1, 1, 0, 2, 4, 2, 1, 600}, {1, 4, 1, 1, 0, 2, 0, 0}, {0, 2, 2, 0, 0, 0, 0, 0},
            {0, 3, 3, 0, 0, 0, 0, 0}, {1, 0, 4, 1, 0, 2, 0, 0}, {0, 5, 5, 0, 0, 0, 0, 0}};
        TokenBus bus = States.busy();
        for (int n = 0; n < 6; n++) {
            for (int what = 0; what < 8; what++) {
                Due.is("node(" + n + ", " + what + ") of the busy bus", bus.node(n, what), due[n][what]);
            }
        }
    }

    /** "The value of object o of node n; 0 when there is no such node or object." */
    private static void valueOfNoSuchNodeOrObject() {
        for (int n = 0; n < 6; n++) {
            TokenBus bus = full(n);
            int[] due = {-7, 101, 33};
            for (int o = 0; o < 3; o++) {
                Due.is("value(" + n + ", " + o + ")", bus.value(n, o), due[o]);
            }
            for (int o : Edge.outside(0, 2)) {
                Due.is("value(" + n + ", " + o + ")", bus.value(n, o), 0);
            }
            for (int wrong : Edge.outside(0, 5)) {
                for (int o = -1; o <= 3; o++) {
                    Due.is("value(" + wrong + ", " + o + ")", bus.value(wrong, o), 0);
                }
            }
        }
        for (int o : Edge.outside(0, 2)) {
            Unchanged.inEveryState("value(0, " + o + ")", bus -> bus.value(0, o), 0);
            Unchanged.inEveryState("value(-1, " + o + ")", bus -> bus.value(-1, o), 0);
        }
    }

    /** Node n with an input, a setpoint and levels 1, 2 and 16. */
    private static TokenBus full(int n) {
        int asker = n == 0 ? 5 : 0;
        TokenBus bus = Buses.ring(Math.min(n, asker), Math.max(n, asker));
        bus.sense(n, -7);
        int[][] writings = {{1, 1, 101}, {1, 2, 102}, {1, 16, 116}, {2, 0, 33}};
        for (int[] w : writings) {
            bus.request(asker, n, Buses.what(Buses.WRITE, w[0], w[1]), w[2]);
        }
        for (int k = 0; k < 40 && bus.node(asker, 4) > 0; k++) {
            bus.step();
        }
        return bus;
    }

    /** "its int; 0 when it is empty, or there is no such node or level"; "Whether that level is not empty." */
    private static void levelThatIsEmptyOrIsNot() {
        for (int n = 0; n < 6; n++) {
            TokenBus bus = full(n);
            for (int l = 1; l <= 16; l++) {
                boolean filled = l < 3 || l == 16;
                Due.is("level(" + n + ", " + l + ")", bus.level(n, l), filled ? 100 + l : 0);
                Due.is("set(" + n + ", " + l + ")", bus.set(n, l), filled);
            }
            for (int l : Edge.outside(1, 16)) {
                Due.is("level(" + n + ", " + l + ")", bus.level(n, l), 0);
                Due.is("set(" + n + ", " + l + ")", bus.set(n, l), false);
            }
            for (int wrong : Edge.outside(0, 5)) {
                for (int l : new int[] {0, 1, 2, 16, 17, Integer.MIN_VALUE, Integer.MAX_VALUE}) {
                    Due.is("level(" + wrong + ", " + l + ")", bus.level(wrong, l), 0);
                    Due.is("set(" + wrong + ", " + l + ")", bus.set(wrong, l), false);
                }
            }
        }
        for (int l : Edge.outside(1, 16)) {
            Unchanged.inEveryState("level(0, " + l + ")", bus -> bus.level(0, l), 0);
            Unchanged.falseInEveryState("set(0, " + l + ")", bus -> bus.set(0, l));
            Unchanged.falseInEveryState("set(6, " + l + ")", bus -> bus.set(6, l));
        }
    }

    /** "REFUSED when there is none": with none, one, fifty-nine and sixty made. */
    private static void stateWhenThereIsNone() {
        TokenBus bus = new TokenBus();
        for (int made = 0; made < 3; made++) {
            for (int r : Edge.outside(0, made - 1)) {
                Due.is("state(" + r + ") of " + made, bus.state(r), TokenBus.REFUSED);
                Due.is("answer(" + r + ") of " + made, bus.answer(r), 0);
            }
            for (int r = 0; r < made; r++) {
                Due.is("state(" + r + ") of " + made, bus.state(r), 0);
            }
            bus.request(made, 5, 1, 0);
        }
        for (int made = 59; made <= 60; made++) {
            TokenBus many = States.made(made);
            Due.is("state(58)", many.state(58), 1);
            Due.is("state(59)", many.state(59), made == 60 ? 1 : TokenBus.REFUSED);
            for (int r : new int[] {-1, 60, 61, Integer.MIN_VALUE, Integer.MAX_VALUE}) {
                Due.is("state(" + r + ")", many.state(r), TokenBus.REFUSED);
                Due.is("answer(" + r + ")", many.answer(r), 0);
            }
        }
        for (int r : Edge.outside(0, 59)) {
            Unchanged.inEveryState("state(" + r + ")", b -> b.state(r), TokenBus.REFUSED);
            Unchanged.inEveryState("answer(" + r + ")", b -> b.answer(r), 0);
        }
    }

    /** "The answer to request r if it is ANSWERED; 0 otherwise": waiting, in error and given up. */
    private static void answerOtherwise() {
        TokenBus bus = Buses.ring(0, 1);
        bus.sense(1, 10000);
        bus.request(0, 1, Buses.what(Buses.READ, 0, 0), 5);
        stateAndAnswer(bus, 0, 0, 0);
        Buses.loseAnswer(bus);
        stateAndAnswer(bus, 0, 0, 0);
        bus.step();
        stateAndAnswer(bus, 0, 1, 10000);
        Buses.stepUntilTokenComes(bus, 0);
        Buses.ask(bus, 1, Buses.what(Buses.WRITE, 1, 17), 5);
        stateAndAnswer(bus, 1, 2, 0);
        bus.request(0, 1, Buses.what(Buses.WRITE, 1, 16), 5);
        for (int k = 0; k < 3; k++) {
            stateAndAnswer(bus, 2, 0, 0);
            Buses.loseAnswer(bus);
            if (k == 0) {
                Buses.stepUntilTokenComes(bus, 0);
            }
        }
        stateAndAnswer(bus, 2, 3, 0);
        stateAndAnswer(bus, 0, 1, 10000);
    }

    private static void stateAndAnswer(TokenBus bus, int r, int state, int answer) {
        Due.is("state(" + r + ")", bus.state(r), state);
        Due.is("answer(" + r + ")", bus.answer(r), answer);
    }

    /** "for 0 to 2 also when it has noted none". */
    private static void notedWhenItHasNotedNone() {
        for (int n = 0; n < 6; n++) {
            int asker = n;
            int other = n == 5 ? 0 : n + 1;
            TokenBus bus = Buses.ring(Math.min(n, other), Math.max(n, other));
            allNoted(bus, n, -1, -1, -1, 0);
            if (bus.holder() != asker) {
                Buses.stepUntilTokenComes(bus, asker);
            }
            Buses.ask(bus, other, Buses.what(Buses.SUBSCRIBE, 0, 0), 0);
            bus.sense(other, -10);
            allNoted(bus, n, -1, -1, -1, 0);
            Buses.stepUntilTokenComes(bus, other);
            bus.step();
            allNoted(bus, n, other, 0, -10, 1);
            allNoted(bus, other, -1, -1, -1, 0);
            bus.sense(other, -1);
            Buses.stepUntilTokenComes(bus, other);
            bus.step();
            allNoted(bus, n, other, 0, -10, 1);
            bus.sense(other, 0);
            Buses.stepUntilTokenComes(bus, other);
            bus.step();
            allNoted(bus, n, other, 0, 0, 2);
        }
    }

    private static void allNoted(TokenBus bus, int n, int... due) {
        for (int what = 0; what < due.length; what++) {
            Due.is("noted(" + n + ", " + what + ")", bus.noted(n, what), due[what]);
        }
    }

    /** "REFUSED when there is no such node, or for any other number". */
    private static void notedOutOfItsRange() {
        for (int n : Edge.outside(0, 5)) {
            for (int what = -1; what <= 4; what++) {
                int number = what;
                Unchanged.inEveryState("noted(" + n + ", " + what + ")", bus -> bus.noted(n, number), TokenBus.REFUSED);
            }
        }
        for (int what : Edge.outside(0, 3)) {
            for (int n : new int[] {0, 4, 5}) {
                Unchanged.inEveryState("noted(" + n + ", " + what + ")", bus -> bus.noted(n, what), TokenBus.REFUSED);
            }
        }
    }

    /** "(but a value may be any int)": -1, -2 and the ends. */
    private static void aNotedValueMayBeAnyInt() {
        for (int number : new int[] {-2, -1, Integer.MIN_VALUE, Integer.MAX_VALUE}) {
            TokenBus bus = Buses.ring(0, 1);
            Buses.ask(bus, 1, Buses.what(Buses.WRITE, 1, 1), 100);
            Buses.ask(bus, 1, Buses.what(Buses.SUBSCRIBE, 1, 0), 0);
            Buses.stepUntilTokenComes(bus, 0);
            Buses.ask(bus, 1, Buses.what(Buses.WRITE, 1, 1), number);
            Buses.stepUntilTokenComes(bus, 1);
            bus.step();
            allNoted(bus, 0, 1, 1, number, 1);
        }
    }

    /** "REFUSED when which is neither, or for any other i without a byte." */
    private static void frameOutOfItsRange() {
        for (int which : Edge.outside(0, 1)) {
            for (int i : new int[] {-2, -1, 0, 17, 18}) {
                Unchanged.inEveryState("frame(" + which + ", " + i + ")", bus -> bus.frame(which, i), TokenBus.REFUSED);
            }
        }
        for (int i : Edge.outside(-1, 17)) {
            for (int which = 0; which < 2; which++) {
                int number = which;
                Unchanged.inEveryState("frame(" + which + ", " + i + ")", bus -> bus.frame(number, i), TokenBus.REFUSED);
            }
        }
    }

    /** "how many it has for i = -1 (0 if there was no such frame)": 18, 8 and 0. */
    private static void frameOfEverySize() {
        TokenBus bus = Buses.ring(0, 1);
        Buses.ask(bus, 1, 1, 0);
        frameHas(bus, 0, 18);
        frameHas(bus, 1, 18);
        bus.step();
        frameHas(bus, 0, 8);
        frameHas(bus, 1, 0);
        bus.power(1, false);
        frameHas(bus, 0, 8);
        bus.step();
        frameHas(bus, 0, 0);
        frameHas(bus, 1, 0);
        TokenBus joining = Buses.powered(0, 1);
        Buses.steps(joining, 5);
        frameHas(joining, 0, 8);
        frameHas(joining, 1, 8);
    }

    private static void frameHas(TokenBus bus, int which, int size) {
        Due.is("frame(" + which + ", -1)", bus.frame(which, -1), size);
        for (int i = -3; i < 20; i++) {
            if (i < -1 || i >= size) {
                Due.is("frame(" + which + ", " + i + ") of " + size, bus.frame(which, i), TokenBus.REFUSED);
            } else if (i >= 0) {
                Due.is("frame(" + which + ", " + i + ") of " + size, bus.frame(which, i) >= 0, true);
            }
        }
        for (int i : new int[] {255, 256, Integer.MIN_VALUE, Integer.MAX_VALUE}) {
            Due.is("frame(" + which + ", " + i + ") of " + size, bus.frame(which, i), TokenBus.REFUSED);
        }
    }

    private static void frameBeforeTheFirstStep() {
        TokenBus bus = Buses.powered(0);
        bus.spoil(0, 0, 1);
        frameHas(bus, 0, 0);
        frameHas(bus, 1, 0);
    }

    /** "REFUSED for any other number." */
    private static void totalOutOfItsRange() {
        for (int what : Edge.outside(0, 3)) {
            Unchanged.inEveryState("total(" + what + ")", bus -> bus.total(what), TokenBus.REFUSED);
        }
    }

    private static void totalsFromZeroOn() {
        TokenBus bus = Buses.powered(0, 1);
        totals(bus, 0, 0, 0, 0);
        Buses.steps(bus, 3);
        totals(bus, 3, 0, 0, 3);
        bus.step();
        totals(bus, 4, 0, 0, 0);
        bus.step();
        totals(bus, 5, 2, 0, 0);
        bus.step();
        totals(bus, 6, 3, 0, 0);
        bus.request(1, 0, 1, 0);
        bus.request(1, 1, 1, 0);
        totals(bus, 6, 3, 1, 0);
        bus.step();
        totals(bus, 7, 5, 1, 0);
        bus.power(1, false);
        bus.step();
        totals(bus, 8, 5, 1, 1);
    }

    private static void totals(TokenBus bus, int... due) {
        for (int what = 0; what < 4; what++) {
            Due.is("total(" + what + ")", bus.total(what), due[what]);
        }
    }
}
