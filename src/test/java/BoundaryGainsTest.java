/** Promise 4 at its boundaries. */
public final class BoundaryGainsTest {
    public static void main(String[] args) {
        gainsUpToBothEnds();
        falseWhenOneIsNot();
        falseWhenThereIsNoSuchNode();
        itsSumBecomesZero();
        Due.end();
    }

    /** "The gains of node n's loop become P = p and I = i": seen at level 15, e and the sum being 16. */
    private static void gainsUpToBothEnds() {
        for (int n = 0; n < 6; n++) {
            for (int p : Edge.inside(0, 100)) {
                for (int i : Edge.inside(0, 100)) {
                    TokenBus bus = Buses.powered(n);
                    bus.sense(n, -16);
                    Due.is("gains(" + n + ", " + p + ", " + i + ")", bus.gains(n, p, i), true);
                    bus.step();
                    Due.is("level(" + n + ", 15)", bus.level(n, 15), p + i);
                    Due.is("set(" + n + ", 15)", bus.set(n, 15), p + i > 0);
                    Due.is("set of the neighbour", bus.set(n == 5 ? 0 : n + 1, 15), false);
                }
            }
        }
    }

    /** "False when .. one of them is not 0 .. 100". */
    private static void falseWhenOneIsNot() {
        for (int wrong : Edge.outside(0, 100)) {
            for (int right : new int[] {0, 100, wrong}) {
                for (int n : new int[] {0, 4}) {
                    Unchanged.falseInEveryState("gains(" + n + ", " + wrong + ", " + right + ")",
                        bus -> bus.gains(n, wrong, right));
                    Unchanged.falseInEveryState("gains(" + n + ", " + right + ", " + wrong + ")",
                        bus -> bus.gains(n, right, wrong));
                }
            }
        }
    }

    /** "False when there is no such node". */
    private static void falseWhenThereIsNoSuchNode() {
        for (int n : Edge.outside(0, 5)) {
            Unchanged.falseInEveryState("gains(" + n + ", 0, 0)", bus -> bus.gains(n, 0, 0));
            Unchanged.falseInEveryState("gains(" + n + ", 100, 100)", bus -> bus.gains(n, 100, 100));
        }
    }

    /** "its sum 0": also when the gains are as before, and when they become 0; level 15 stays. */
    private static void itsSumBecomesZero() {
        for (int gain : new int[] {0, 1, 100}) {
            TokenBus bus = Buses.powered(3);
            bus.sense(3, 10000);
            bus.gains(3, 0, 1);
            bus.step();
            Due.is("node(3, 7)", bus.node(3, 7), -10000);
            Due.is("gains(3, 0, " + gain + ")", bus.gains(3, 0, gain), true);
            Due.is("node(3, 7)", bus.node(3, 7), 0);
            Due.is("level(3, 15)", bus.level(3, 15), -625);
        }
    }
}
