/** The phase POLL at its boundaries: who is asked to join, for each node and each next. */
public final class BoundaryPollTest {
    public static void main(String[] args) {
        roundEveryGap();
        thatIsItsNextToo();
        aloneItGoesRoundAllOthers();
        joiningBeginsTheGapAnew();
        thePhaseBehindIt();
        Due.end();
    }

    private static int behind(int n) {
        return (n + 1) % 6;
    }

    /** "the node behind its polled one (0 is behind 5), but, if that is its next, the node behind itself". */
    private static void roundEveryGap() {
        for (int a = 0; a < 6; a++) {
            for (int b = a + 1; b < 6; b++) {
                pollsOf(Buses.ring(a, b), a, b);
                pollsOf(Buses.ring(a, b), b, a);
            }
        }
    }

    private static void pollsOf(TokenBus bus, int h, int next) {
        int due = h;
        for (int k = 0; k < 6 && behind(h) != next; k++) {
            due = behind(due) == next ? behind(h) : behind(due);
            Buses.stepUntilCountIsThree(bus, h);
            Due.is("step()", bus.step(), 1);
            Due.is("frame(0, 2)", bus.frame(0, 2), 1);
            Due.is("frame(0, 3) of " + h + " with next " + next, bus.frame(0, 3), due);
            Due.is("node(" + h + ", 2)", bus.node(h, 2), due);
            Due.is("node(" + h + ", 1)", bus.node(h, 1), next);
            Due.is("node(" + h + ", 3)", bus.node(h, 3), 0);
            Due.is("phase()", bus.phase(), Buses.PASS);
        }
    }

    /** "If that is its next, too: on with PASS." */
    private static void thatIsItsNextToo() {
        for (int h = 0; h < 6; h++) {
            int next = behind(h);
            TokenBus bus = Buses.ring(Math.min(h, next), Math.max(h, next));
            for (int k = 0; k < 3; k++) {
                Buses.stepUntilCountIsThree(bus, h);
                Due.is("step()", bus.step(), 1);
                Due.is("frame(0, 2) of " + h, bus.frame(0, 2), 0);
                Due.is("frame(0, 3) of " + h, bus.frame(0, 3), next);
                Due.is("holder()", bus.holder(), next);
                Due.is("node(" + h + ", 2)", bus.node(h, 2), h);
                Due.is("node(" + h + ", 3)", bus.node(h, 3), 0);
            }
        }
    }

    /** Its next being itself, it is not asked: the node behind it is. */
    private static void aloneItGoesRoundAllOthers() {
        for (int h = 0; h < 6; h++) {
            TokenBus bus = Buses.powered(h);
            Buses.steps(bus, 4 + 2 * h + 6);
            Due.is("phase()", bus.phase(), Buses.USE);
            int due = h;
            for (int k = 0; k < 12; k++) {
                due = behind(due) == h ? behind(h) : behind(due);
                Due.is("step()", bus.step(), 1);
                Due.is("frame(0, 2)", bus.frame(0, 2), 1);
                Due.is("frame(0, 3) of " + h, bus.frame(0, 3), due);
                Due.is("node(" + h + ", 2)", bus.node(h, 2), due);
                Due.is("phase()", bus.phase(), Buses.USE);
            }
        }
    }

    /** "h's next becomes p, and its polled itself", for each p that the gap of node 0 with node 5 has. */
    private static void joiningBeginsTheGapAnew() {
        for (int p = 1; p < 5; p++) {
            TokenBus bus = Buses.ring(0, 5);
            for (int k = 1; k < p; k++) {
                Buses.stepUntilCountIsThree(bus, 0);
                bus.step();
                Due.is("node(0, 2)", bus.node(0, 2), k);
            }
            Buses.stepUntilCountIsThree(bus, 0);
            bus.power(p, true);
            Due.is("step()", bus.step(), 2);
            Due.is("node(0, 1)", bus.node(0, 1), p);
            Due.is("node(0, 2)", bus.node(0, 2), 0);
            Due.is("node(" + p + ", 1)", bus.node(p, 1), p);
            Due.is("phase()", bus.phase(), Buses.PASS);
            bus.step();
            Due.is("holder()", bus.holder(), p);
        }
    }

    /** "Then the phase is PASS, or, if its next is itself, USE with nothing sent": both, with POLL or HERE lost, too. */
    private static void thePhaseBehindIt() {
        for (int lost = 0; lost < 3; lost++) {
            TokenBus alone = Buses.powered(0);
            Buses.steps(alone, 4 + 6);
            alone.power(1, true);
            TokenBus ring = Buses.ring(0, 2);
            Buses.stepUntilCountIsThree(ring, 0);
            ring.power(1, true);
            if (lost < 2) {
                alone.spoil(lost, 3, 1);
                ring.spoil(lost, 3, 1);
            }
            Due.is("step()", alone.step(), lost == 0 ? 1 : 2);
            Due.is("node(0, 1)", alone.node(0, 1), lost < 2 ? 0 : 1);
            Due.is("node(0, 2)", alone.node(0, 2), lost < 2 ? 1 : 0);
            Due.is("phase()", alone.phase(), lost < 2 ? Buses.USE : Buses.PASS);
            Due.is("step()", ring.step(), lost == 0 ? 1 : 2);
            Due.is("node(0, 1)", ring.node(0, 1), lost < 2 ? 2 : 1);
            Due.is("node(0, 2)", ring.node(0, 2), lost < 2 ? 1 : 0);
            Due.is("phase()", ring.phase(), Buses.PASS);
        }
        TokenBus sending = Buses.powered(0);
        Buses.steps(sending, 4 + 6);
        for (int k = 0; k < 4; k++) {
            sending.request(0, 5, 1, 0);
        }
        for (int type : new int[] {5, 5, 1, 5, 5, 1, 5, 5, 1}) {
            sending.step();
            Due.is("frame(0, 2): two in each use", sending.frame(0, 2), type);
        }
    }
}
