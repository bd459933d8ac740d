/** "A call that is refused, or answers false, changes nothing": two buses go alike, one with refused calls between. */
public final class RefusedCallsTest {
    private static final int[] ODD = {Integer.MIN_VALUE, -10001, -1, 6, 2048, 10001, Integer.MAX_VALUE};

    public static void main(String[] args) {
        TokenBus plain = busy();
        TokenBus teased = busy();
        for (int k = 0; k < 10; k++) {
            tease(teased, ODD[k % ODD.length]);
            Due.is("step()", teased.step(), plain.step());
            alike(teased, plain);
        }
        Due.end();
    }

    private static TokenBus busy() {
        TokenBus bus = Buses.ring(0, 1, 4);
        bus.gains(1, 3, 2);
        Buses.ask(bus, 1, Buses.what(Buses.SUBSCRIBE, 1, 0), 0);
        bus.sense(1, 60);
        for (int k = 0; k < 4; k++) {
            bus.request(0, 1 + 3 * (k % 2), Buses.what(Buses.WRITE, 1, 2 + k), k);
        }
        bus.spoil(0, 2, 9);
        return bus;
    }

    private static void tease(TokenBus bus, int odd) {
        Due.is("power", bus.power(odd, true) || bus.power(1, true) || bus.power(3, false), false);
        Due.is("sense", bus.sense(odd, 0) || bus.sense(1, odd < 0 ? -10001 : 10001), false);
        Due.is("gains", bus.gains(odd, 0, 0) || bus.gains(1, -1, 0) || bus.gains(1, 0, 101), false);
        Due.is("request", bus.request(odd, 1, 1, 0), -1);
        Due.is("request", bus.request(1, 1, 1, 0), -1);
        Due.is("spoil", bus.spoil(odd, 0, 1) || bus.spoil(0, 18, 1) || bus.spoil(1, 0, 0), false);
        if (bus.node(0, 4) == 4) {
            Due.is("request", bus.request(0, 1, 1, 0), -2);
        }
    }

    private static void alike(TokenBus a, TokenBus b) {
        Due.is("holder()", a.holder(), b.holder());
        Due.is("phase()", a.phase(), b.phase());
        for (int n : new int[] {0, 1, 4}) {
            for (int what = 1; what < 8; what++) {
                Due.is("node(" + n + ", " + what + ")", a.node(n, what), b.node(n, what));
            }
        }
        Due.is("value(1, 1)", a.value(1, 1), b.value(1, 1));
        Due.is("total(1)", a.total(1), b.total(1));
        Due.is("total(2)", a.total(2), b.total(2));
    }
}
