/** Promise 7: what a target does with a request, and what it answers. */
public final class Promise07ServicesTest {
    private static final int ANSWERED = 1;
    private static final int IN_ERROR = 2;

    public static void main(String[] args) {
        everyWhat();
        reads();
        writesAnOutput();
        writesASetpoint();
        releases();
        errorsDoNothing();
        Due.end();
    }

    /** Every "what", with an int that is a setpoint and one that is none. */
    private static void everyWhat() {
        for (int what = 0; what < 2048; what++) {
            for (int number : new int[] {-10000, 10001}) {
                TokenBus bus = Buses.ring(0, 1);
                Buses.ask(bus, 1, what, number);
                boolean right = isRight(what % 8, what / 8 % 8, what / 64, number);
                String call = "state(0) for what " + what + " and " + number;
                Due.is(call, bus.state(0), right ? ANSWERED : IN_ERROR);
                Due.is("answer(0)", bus.answer(0), !right || what % 8 == Buses.READ ? 0 : number);
                Due.is("frame(1, 8)", bus.frame(1, 8), what % 8 + (right ? 128 : 64));
                Due.is("frame(1, 10)", bus.frame(1, 10), what / 8 % 8);
                Due.is("frame(1, 11)", bus.frame(1, 11), what / 64);
                Due.is("node(0, 4)", bus.node(0, 4), 0);
            }
        }
    }

    private static boolean isRight(int service, int object, int level, int number) {
        boolean isLevel = 1 <= level && level <= 16;
        return switch (service) {
            case Buses.READ -> object <= 2;
            case Buses.WRITE -> object == 1 && isLevel || object == 2 && level == 0 && Math.abs(number) <= 10000;
            case Buses.RELEASE -> object == 1 && isLevel;
            case Buses.SUBSCRIBE -> object <= 1;
            default -> false;
        };
    }

    private static void reads() {
        TokenBus bus = Buses.ring(0, 1);
        bus.sense(1, -33);
        Buses.ask(bus, 1, Buses.what(Buses.WRITE, 1, 16), Integer.MIN_VALUE);
        Buses.ask(bus, 1, Buses.what(Buses.WRITE, 2, 0), 4321);
        Buses.stepUntilTokenComes(bus, 0);
        Buses.ask(bus, 1, Buses.what(Buses.READ, 0, 31), 5);
        Buses.ask(bus, 1, Buses.what(Buses.READ, 1, 0), 5);
        Buses.stepUntilTokenComes(bus, 0);
        Buses.ask(bus, 1, Buses.what(Buses.READ, 2, 1), 5);
        Due.is("answer(2)", bus.answer(2), -33);
        Due.is("answer(3)", bus.answer(3), Integer.MIN_VALUE);
        Due.is("answer(4)", bus.answer(4), 4321);
        Due.is("value(0, 0), the asker's own", bus.value(0, 0), 0);
    }

    private static void writesAnOutput() {
        for (int l = 1; l <= 16; l++) {
            TokenBus bus = Buses.ring(0, 1);
            Buses.ask(bus, 1, Buses.what(Buses.WRITE, 1, l), 70 + l);
            for (int k = 1; k <= 16; k++) {
                Due.is("set(1, " + k + ")", bus.set(1, k), k == l);
                Due.is("level(1, " + k + ")", bus.level(1, k), k == l ? 70 + l : 0);
            }
            Due.is("value(1, 1)", bus.value(1, 1), 70 + l);
            Due.is("set(0, " + l + ")", bus.set(0, l), false);
        }
    }

    private static void writesASetpoint() {
        for (int number : new int[] {-10000, 10000, 1}) {
            TokenBus bus = Buses.ring(0, 1);
            Buses.ask(bus, 1, Buses.what(Buses.WRITE, 2, 0), number);
            Due.is("value(1, 2)", bus.value(1, 2), number);
            Due.is("answer(0)", bus.answer(0), number);
        }
        for (int number : new int[] {-10001, 10001, Integer.MIN_VALUE, Integer.MAX_VALUE}) {
            TokenBus bus = Buses.ring(0, 1);
            Buses.ask(bus, 1, Buses.what(Buses.WRITE, 2, 0), number);
            Due.is("value(1, 2)", bus.value(1, 2), 0);
            Due.is("state(0)", bus.state(0), IN_ERROR);
        }
    }

    private static void releases() {
        TokenBus bus = Buses.ring(0, 1);
        Buses.ask(bus, 1, Buses.what(Buses.WRITE, 1, 1), 5);
        Buses.ask(bus, 1, Buses.what(Buses.WRITE, 1, 16), 6);
        Due.is("value(1, 1)", bus.value(1, 1), 5);
        Buses.stepUntilTokenComes(bus, 0);
        Buses.ask(bus, 1, Buses.what(Buses.RELEASE, 1, 1), 99);
        Due.is("set(1, 1)", bus.set(1, 1), false);
        Due.is("level(1, 1)", bus.level(1, 1), 0);
        Due.is("value(1, 1)", bus.value(1, 1), 6);
        Due.is("answer(2)", bus.answer(2), 99);
        Buses.ask(bus, 1, Buses.what(Buses.RELEASE, 1, 1), 98);
        Due.is("state(3): an empty one may be released", bus.state(3), ANSWERED);
        Buses.stepUntilTokenComes(bus, 0);
        Buses.ask(bus, 1, Buses.what(Buses.RELEASE, 1, 16), 0);
        Due.is("value(1, 1)", bus.value(1, 1), 0);
    }

    private static void errorsDoNothing() {
        int[] wrong = {Buses.what(Buses.WRITE, 0, 1), Buses.what(Buses.WRITE, 1, 0), Buses.what(Buses.WRITE, 1, 17),
            Buses.what(Buses.WRITE, 2, 1), Buses.what(Buses.WRITE, 3, 1), Buses.what(Buses.RELEASE, 0, 3),
            Buses.what(Buses.RELEASE, 2, 3), Buses.what(Buses.RELEASE, 1, 0), Buses.what(Buses.RELEASE, 1, 17),
            Buses.what(Buses.SUBSCRIBE, 2, 0), Buses.what(Buses.READ, 3, 0), Buses.what(0, 1, 3),
            Buses.what(5, 1, 3), Buses.what(6, 1, 3), Buses.what(7, 1, 3)};
        for (int what : wrong) {
            TokenBus bus = Buses.ring(0, 1);
            bus.sense(1, 8);
            Buses.ask(bus, 1, Buses.what(Buses.WRITE, 1, 3), 7);
            Buses.ask(bus, 1, what, 1);
            Due.is("state(1) for " + what, bus.state(1), IN_ERROR);
            for (int l = 1; l <= 16; l++) {
                Due.is("level(1, " + l + ")", bus.level(1, l), l == 3 ? 7 : 0);
            }
            Due.is("value(1, 0)", bus.value(1, 0), 8);
            Due.is("value(1, 2)", bus.value(1, 2), 0);
            Due.is("node(1, 6)", bus.node(1, 6), 0);
        }
    }
}
