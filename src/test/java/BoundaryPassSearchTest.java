/** The phases PASS and SEARCH at their boundaries. */
public final class BoundaryPassSearchTest {
    public static void main(String[] args) {
        itsCountAndTokensGrowByOne();
        whenItIsTheSecondTime();
        inThisPhase();
        itsPolledBecomesItsNext();
        ifPIsItself();
        fromNextOnToItself();
        ifNextIsPThen();
        useWithNothingSent();
        Due.end();
    }

    private static int behind(int n) {
        return (n + 1) % 6;
    }

    /** "that node is the holder, in phase USE .., its count grows by 1, and it has got one token more": from 0 on. */
    private static void itsCountAndTokensGrowByOne() {
        TokenBus bus = Buses.powered(0, 1);
        Buses.steps(bus, 5);
        countAndTokens(bus, 0, 0);
        bus.step();
        Due.is("holder()", bus.holder(), 1);
        Due.is("phase()", bus.phase(), Buses.USE);
        countAndTokens(bus, 1, 1);
        bus.step();
        countAndTokens(bus, 0, 1);
        for (int k = 1; k <= 3; k++) {
            Buses.stepUntilTokenComes(bus, 1);
            countAndTokens(bus, k, 1 + k);
        }
        Due.is("node(0, 5)", bus.node(0, 5), 3);
    }

    private static void countAndTokens(TokenBus bus, int count, int tokens) {
        Due.is("node(1, 3)", bus.node(1, 3), count);
        Due.is("node(1, 5)", bus.node(1, 5), tokens);
    }

    /** "Otherwise, when it is the second time in this phase: the phase is SEARCH": not the first time. */
    private static void whenItIsTheSecondTime() {
        for (int lost = 0; lost <= 2; lost++) {
            TokenBus bus = Buses.ring(1, 4);
            for (int k = 0; k < lost; k++) {
                Buses.loseFrame(bus);
            }
            Due.is("holder()", bus.holder(), 1);
            Due.is("phase() behind " + lost, bus.phase(), new int[] {Buses.USE, Buses.PASS, Buses.SEARCH}[lost]);
            Due.is("node(1, 1)", bus.node(1, 1), lost < 2 ? 4 : 1);
            Due.is("node(1, 2)", bus.node(1, 2), lost < 2 ? 1 : 4);
            bus.step();
            Due.is("holder() one step later", bus.holder(), lost < 2 ? 4 : 1);
        }
    }

    /** "in this phase": what was lost in another PASS, of its own or of another node, does not count. */
    private static void inThisPhase() {
        TokenBus bus = Buses.ring(0, 1);
        for (int k = 0; k < 6; k++) {
            int from = bus.holder();
            Buses.loseFrame(bus);
            if (bus.frame(0, 2) == 1) {
                Due.is("a POLL is no try", bus.phase(), Buses.PASS);
                Buses.loseFrame(bus);
            }
            Due.is("holder()", bus.holder(), from);
            Due.is("phase()", bus.phase(), Buses.PASS);
            bus.step();
            Due.is("holder()", bus.holder(), 1 - from);
        }
        TokenBus found = Buses.ring(0, 1, 2);
        Buses.loseFrame(found);
        Buses.loseFrame(found);
        Due.is("phase()", found.phase(), Buses.SEARCH);
        found.step();
        Due.is("phase()", found.phase(), Buses.PASS);
        Buses.loseFrame(found);
        Due.is("phase() behind a new PASS's first", found.phase(), Buses.PASS);
        Buses.loseFrame(found);
        Due.is("phase() behind its second", found.phase(), Buses.SEARCH);
        Due.is("node(0, 2)", found.node(0, 2), 2);
        Due.is("node(0, 1)", found.node(0, 1), 0);
    }

    /** "its polled becomes its next, and its next itself", for each pair of nodes. */
    private static void itsPolledBecomesItsNext() {
        for (int a = 0; a < 6; a++) {
            for (int b = a + 1; b < 6; b++) {
                lostTwice(Buses.ring(a, b), a, b);
                TokenBus bus = Buses.ring(a, b);
                Buses.stepUntilTokenComes(bus, b);
                lostTwice(bus, b, a);
            }
        }
    }

    private static void lostTwice(TokenBus bus, int h, int next) {
        bus.power(next, false);
        Buses.steps(bus, 2);
        Due.is("holder()", bus.holder(), h);
        Due.is("phase()", bus.phase(), Buses.SEARCH);
        Due.is("node(" + h + ", 1)", bus.node(h, 1), h);
        Due.is("node(" + h + ", 2)", bus.node(h, 2), next);
        for (int p = behind(next); p != h; p = behind(p)) {
            Due.is("step()", bus.step(), 1);
            Due.is("frame(0, 3)", bus.frame(0, 3), p);
            Due.is("node(" + h + ", 2)", bus.node(h, 2), p);
            Due.is("phase()", bus.phase(), Buses.SEARCH);
        }
        Due.is("step() when p is itself", bus.step(), 0);
        Due.is("phase()", bus.phase(), Buses.USE);
        Due.is("holder()", bus.holder(), h);
    }

    /** "If p is itself: the phase is USE": its polled stays, and no frame is sent. */
    private static void ifPIsItself() {
        for (int h = 0; h < 6; h++) {
            int before = (h + 5) % 6;
            TokenBus bus = Buses.powered(h);
            Buses.steps(bus, 4 + 2 * h + 4);
            Due.is("phase()", bus.phase(), Buses.SEARCH);
            Due.is("step(), asking the one before it", bus.step(), 1);
            Due.is("frame(0, 3)", bus.frame(0, 3), before);
            Due.is("phase()", bus.phase(), Buses.SEARCH);
            Due.is("step()", bus.step(), 0);
            Due.is("phase()", bus.phase(), Buses.USE);
            Due.is("node(" + h + ", 1)", bus.node(h, 1), h);
            Due.is("node(" + h + ", 2)", bus.node(h, 2), before);
            Due.is("frame(0, -1)", bus.frame(0, -1), 0);
        }
    }

    /** "p is the node behind its polled one": from behind itself, when it came out of silence, over 5 to 0. */
    private static void fromNextOnToItself() {
        for (int h = 0; h < 6; h++) {
            TokenBus bus = Buses.powered(h);
            Buses.steps(bus, 4 + 2 * h);
            for (int p = behind(h); p != h; p = behind(p)) {
                Due.is("step()", bus.step(), 1);
                Due.is("frame(0, 2)", bus.frame(0, 2), 1);
                Due.is("frame(0, 3)", bus.frame(0, 3), p);
                Due.is("frame(0, 4)", bus.frame(0, 4), h);
                Due.is("node(" + h + ", 2)", bus.node(h, 2), p);
            }
        }
    }

    /** "if next is p then, the phase is PASS": when both frames arrived, and only then. */
    private static void ifNextIsPThen() {
        for (int lost = 0; lost < 3; lost++) {
            for (int p = 1; p < 6; p++) {
                TokenBus bus = Buses.powered(0, p);
                Buses.steps(bus, 4 + p - 1);
                if (lost < 2) {
                    bus.spoil(lost, 7, 128);
                }
                Due.is("step()", bus.step(), lost == 0 ? 1 : 2);
                Due.is("phase()", bus.phase(), lost < 2 ? Buses.SEARCH : Buses.PASS);
                Due.is("node(0, 1)", bus.node(0, 1), lost < 2 ? 0 : p);
                Due.is("node(0, 2)", bus.node(0, 2), lost < 2 ? p : 0);
            }
        }
    }

    /** "USE with nothing sent": two can be sent, though two were sent in the use before. */
    private static void useWithNothingSent() {
        TokenBus bus = Buses.ring(1, 4);
        for (int k = 0; k < 4; k++) {
            bus.request(1, 4, 1, 0);
        }
        Due.is("step()", bus.step(), 2);
        Due.is("step()", bus.step(), 2);
        Buses.loseFrame(bus);
        Buses.loseFrame(bus);
        Buses.steps(bus, 3);
        Due.is("phase()", bus.phase(), Buses.USE);
        for (int type : new int[] {5, 5, 1}) {
            bus.step();
            Due.is("frame(0, 2)", bus.frame(0, 2), type);
        }
        TokenBus passed = Buses.ring(0, 1);
        for (int k = 0; k < 4; k++) {
            passed.request(k % 2, 1 - k % 2, 1, 0);
        }
        for (int type : new int[] {5, 5, 0, 5, 5, 0}) {
            passed.step();
            Due.is("frame(0, 2)", passed.frame(0, 2), type);
        }
    }
}
