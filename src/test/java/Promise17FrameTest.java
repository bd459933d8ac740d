/** Promise 17: frame; the bytes due were worked out apart from the program. */
public final class Promise17FrameTest {
    public static void main(String[] args) {
        refusals();
        pollHereToken();
        askTell();
        errorTell();
        notice();
        spoiltBytes();
        onlyTheLatestStep();
        Due.end();
    }

    private static void frameIs(TokenBus bus, int which, int... due) {
        Due.is("frame(" + which + ", -1)", bus.frame(which, -1), due.length);
        for (int i = 0; i < due.length; i++) {
            Due.is("frame(" + which + ", " + i + ")", bus.frame(which, i), due[i]);
        }
        Due.is("frame(" + which + ", " + due.length + ")", bus.frame(which, due.length), -1);
    }

    private static void refusals() {
        TokenBus bus = Buses.ring(2, 3);
        Buses.ask(bus, 3, 1, 0);
        for (int which : new int[] {-1, 2, Integer.MIN_VALUE, Integer.MAX_VALUE}) {
            Due.is("frame(" + which + ", 0)", bus.frame(which, 0), -1);
            Due.is("frame(" + which + ", -1)", bus.frame(which, -1), -1);
        }
        for (int i : new int[] {-2, 18, 255, Integer.MIN_VALUE, Integer.MAX_VALUE}) {
            Due.is("frame(0, " + i + ")", bus.frame(0, i), -1);
            Due.is("frame(1, " + i + ")", bus.frame(1, i), -1);
        }
        bus.step();
        for (int i = 8; i < 18; i++) {
            Due.is("frame(0, " + i + ") of a short frame", bus.frame(0, i), -1);
        }
    }

    private static void pollHereToken() {
        TokenBus bus = Buses.powered(2, 3);
        Buses.steps(bus, 8);
        frameIs(bus, 0);
        frameIs(bus, 1);
        bus.step();
        frameIs(bus, 0, 85, 255, 1, 3, 2, 0, 0, 215);
        frameIs(bus, 1, 85, 255, 2, 2, 3, 0, 0, 79);
        bus.step();
        frameIs(bus, 0, 85, 255, 0, 3, 2, 0, 0, 81);
        frameIs(bus, 1);
    }

    private static void askTell() {
        TokenBus bus = Buses.ring(2, 3);
        Buses.ask(bus, 3, Buses.what(Buses.WRITE, 1, 8), 0xDEADBEEF);
        frameIs(bus, 0, 85, 255, 5, 3, 2, 0, 8, 48, 2, 0, 1, 8, 222, 173, 190, 239, 2, 207);
        frameIs(bus, 1, 85, 255, 6, 2, 3, 0, 8, 168, 130, 0, 1, 8, 222, 173, 190, 239, 224, 4);
    }

    private static void errorTell() {
        TokenBus bus = Buses.ring(2, 3);
        Buses.ask(bus, 3, 1, 0);
        Buses.ask(bus, 3, 2047, 5);
        frameIs(bus, 0, 85, 255, 5, 3, 2, 0, 8, 48, 7, 1, 7, 31, 0, 0, 0, 5, 104, 21);
        frameIs(bus, 1, 85, 255, 6, 2, 3, 0, 8, 168, 71, 1, 7, 31, 0, 0, 0, 0, 52, 39);
    }

    private static void notice() {
        TokenBus bus = Buses.ring(2, 3);
        Buses.ask(bus, 3, Buses.what(Buses.SUBSCRIBE, 0, 0), 0);
        bus.sense(3, -10000);
        Buses.stepUntilTokenComes(bus, 3);
        bus.step();
        frameIs(bus, 0, 85, 255, 6, 2, 3, 0, 8, 168, 5, 0, 0, 0, 255, 255, 216, 240, 71, 113);
        frameIs(bus, 1);
    }

    private static void spoiltBytes() {
        TokenBus bus = Buses.ring(2, 3);
        bus.spoil(0, 15, 255);
        Buses.ask(bus, 3, Buses.what(Buses.WRITE, 1, 8), 0xDEADBEEF);
        frameIs(bus, 0, 85, 255, 5, 3, 2, 0, 8, 48, 2, 0, 1, 8, 222, 173, 190, 16, 2, 207);
        frameIs(bus, 1);
        bus.spoil(1, 0, 128);
        bus.step();
        frameIs(bus, 0, 85, 255, 5, 3, 2, 0, 8, 48, 2, 0, 1, 8, 222, 173, 190, 239, 2, 207);
        frameIs(bus, 1, 213, 255, 6, 2, 3, 0, 8, 168, 130, 0, 1, 8, 222, 173, 190, 239, 224, 4);
    }

    private static void onlyTheLatestStep() {
        TokenBus bus = Buses.ring(2, 3);
        Buses.ask(bus, 3, 1, 0);
        bus.power(2, false);
        Due.is("frame(1, -1), no step having come", bus.frame(1, -1), 18);
        bus.step();
        frameIs(bus, 0);
        frameIs(bus, 1);
    }
}
