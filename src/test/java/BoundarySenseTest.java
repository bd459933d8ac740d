/** Promise 3 at its boundaries: the input, "an int -10000 .. 10000 (0 at first)". */
public final class BoundarySenseTest {
    public static void main(String[] args) {
        zeroAtFirst();
        inputsUpToBothEnds();
        falseWhenTheValueIsNot();
        falseWhenThereIsNoSuchNode();
        poweredOrNot();
        Due.end();
    }

    /** "0 at first". */
    private static void zeroAtFirst() {
        TokenBus bus = new TokenBus();
        for (int n = 0; n < 6; n++) {
            Due.is("value(" + n + ", 0)", bus.value(n, 0), 0);
        }
    }

    /** "The input of node n becomes value": of the first and the last node and those between. */
    private static void inputsUpToBothEnds() {
        for (int n = 0; n < 6; n++) {
            for (int value : Edge.inside(-10000, 10000)) {
                TokenBus bus = new TokenBus();
                Due.is("sense(" + n + ", " + value + ")", bus.sense(n, value), true);
                for (int k = 0; k < 6; k++) {
                    Due.is("value(" + k + ", 0)", bus.value(k, 0), k == n ? value : 0);
                }
            }
        }
    }

    /** "false when .. value is not -10000 .. 10000". */
    private static void falseWhenTheValueIsNot() {
        for (int value : Edge.outside(-10000, 10000)) {
            for (int n : new int[] {0, 4, 5}) {
                Unchanged.falseInEveryState("sense(" + n + ", " + value + ")", bus -> bus.sense(n, value));
            }
        }
    }

    /** "false when there is no such node". */
    private static void falseWhenThereIsNoSuchNode() {
        for (int n : Edge.outside(0, 5)) {
            for (int value : new int[] {-10000, 0, 10000, Integer.MAX_VALUE}) {
                Unchanged.falseInEveryState("sense(" + n + ", " + value + ")", bus -> bus.sense(n, value));
            }
        }
    }

    /** The promise does not ask for power. */
    private static void poweredOrNot() {
        TokenBus bus = Buses.powered(2);
        Due.is("sense(2, 10000)", bus.sense(2, 10000), true);
        Due.is("sense(2, 10000) as it is", bus.sense(2, 10000), true);
        bus.power(2, false);
        Due.is("value(2, 0)", bus.value(2, 0), 10000);
        Due.is("sense(2, -10000)", bus.sense(2, -10000), true);
        bus.power(2, true);
        Due.is("value(2, 0)", bus.value(2, 0), -10000);
    }
}
