/** Promise 18: total, and the number of frames that step answers. */
public final class Promise18TotalTest {
    public static void main(String[] args) {
        TokenBus bus = Buses.powered(0, 3);
        int frames = 0;
        for (int k = 1; k <= 60; k++) {
            if (k % 7 == 0) {
                bus.request(0, 3, 1, 0);
            }
            int sent = bus.step();
            int there = bus.frame(0, -1) > 0 ? 1 : 0;
            int back = bus.frame(1, -1) > 0 ? 1 : 0;
            Due.is("step()", sent, there + back);
            frames += sent;
            Due.is("total(0)", bus.total(0), k);
            Due.is("total(1)", bus.total(1), frames);
            Due.is("total(2)", bus.total(2), k / 7);
        }
        Due.is("total(3)", bus.total(3), 0);
        bus.power(0, false);
        bus.power(3, false);
        for (int k = 1; k <= 15; k++) {
            bus.step();
            Due.is("total(3)", bus.total(3), k);
            Due.is("total(0)", bus.total(0), 60 + k);
            Due.is("total(1)", bus.total(1), frames);
        }
        for (int what : new int[] {-1, 4, Integer.MIN_VALUE, Integer.MAX_VALUE}) {
            Due.is("total(" + what + ")", bus.total(what), -1);
        }
        Due.end();
    }
}
