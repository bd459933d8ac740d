/** Promise 16: noted. */
public final class Promise16NotedTest {
    public static void main(String[] args) {
        refusals();
        lastNotice();
        anyValue();
        Due.end();
    }

    private static void refusals() {
        TokenBus bus = Buses.ring(0, 1);
        for (int n : new int[] {-1, 6, Integer.MIN_VALUE, Integer.MAX_VALUE}) {
            for (int what = 0; what < 4; what++) {
                Due.is("noted(" + n + ", " + what + ")", bus.noted(n, what), -1);
            }
        }
        all(bus, 0, -1, -1, -1, 0);
        noOtherNumber(bus);
        Buses.ask(bus, 1, Buses.what(Buses.SUBSCRIBE, 0, 0), 0);
        bus.sense(1, 10);
        Buses.stepUntilTokenComes(bus, 1);
        bus.step();
        all(bus, 0, 1, 0, 10, 1);
        all(bus, 1, -1, -1, -1, 0);
        noOtherNumber(bus);
    }

    private static void noOtherNumber(TokenBus bus) {
        for (int what : new int[] {-1, 4, Integer.MIN_VALUE, Integer.MAX_VALUE}) {
            Due.is("noted(0, " + what + ")", bus.noted(0, what), -1);
        }
    }

    private static void lastNotice() {
        TokenBus bus = Buses.ring(0, 2, 5);
        Buses.ask(bus, 2, Buses.what(Buses.SUBSCRIBE, 0, 0), 0);
        Buses.ask(bus, 5, Buses.what(Buses.SUBSCRIBE, 1, 0), 0);
        bus.sense(2, -70);
        bus.sense(5, -160);
        bus.gains(5, 1, 0);
        Buses.stepUntilTokenComes(bus, 2);
        bus.step();
        all(bus, 0, 2, 0, -70, 1);
        Buses.stepUntilTokenComes(bus, 5);
        bus.step();
        all(bus, 0, 5, 1, 10, 2);
        all(bus, 2, -1, -1, -1, 0);
    }

    private static void anyValue() {
        for (int number : new int[] {-1, Integer.MIN_VALUE, Integer.MAX_VALUE}) {
            TokenBus bus = Buses.ring(0, 1);
            Buses.ask(bus, 1, Buses.what(Buses.WRITE, 1, 9), 1000);
            Buses.ask(bus, 1, Buses.what(Buses.SUBSCRIBE, 1, 0), 0);
            Buses.stepUntilTokenComes(bus, 0);
            Buses.ask(bus, 1, Buses.what(Buses.WRITE, 1, 9), number);
            Buses.stepUntilTokenComes(bus, 1);
            bus.step();
            all(bus, 0, 1, 1, number, 1);
        }
    }

    private static void all(TokenBus bus, int n, int... due) {
        for (int what = 0; what < due.length; what++) {
            Due.is("noted(" + n + ", " + what + ")", bus.noted(n, what), due[what]);
        }
    }
}
