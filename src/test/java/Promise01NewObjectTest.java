/** Promise 1: what a new object answers, and the face's constants. */
public final class Promise01NewObjectTest {
    public static void main(String[] args) {
        constants();
        nothingGoesOn();
        nodesAreBare();
        nothingIsToBeSpoilt();
        objectsAreApart();
        Due.end();
    }

    private static void constants() {
        Due.is("REFUSED", TokenBus.REFUSED, -1);
        Due.is("FULL", TokenBus.FULL, -2);
    }

    private static void nothingGoesOn() {
        TokenBus bus = new TokenBus();
        Due.is("holder()", bus.holder(), -1);
        Due.is("phase()", bus.phase(), -1);
        for (int what = 0; what <= 3; what++) {
            Due.is("total(" + what + ")", bus.total(what), 0);
        }
        Due.is("state(0)", bus.state(0), -1);
        Due.is("answer(0)", bus.answer(0), 0);
        Due.is("frame(0, -1)", bus.frame(0, -1), 0);
        Due.is("frame(1, -1)", bus.frame(1, -1), 0);
        Due.is("frame(0, 0)", bus.frame(0, 0), -1);
    }

    private static void nodesAreBare() {
        TokenBus bus = new TokenBus();
        for (int n = 0; n < 6; n++) {
            int[] due = {0, n, n, 0, 0, 0, 0, 0};
            for (int what = 0; what < due.length; what++) {
                Due.is("node(" + n + ", " + what + ")", bus.node(n, what), due[what]);
            }
            for (int o = 0; o < 3; o++) {
                Due.is("value(" + n + ", " + o + ")", bus.value(n, o), 0);
            }
            for (int l = 1; l <= 16; l++) {
                Due.is("set(" + n + ", " + l + ")", bus.set(n, l), false);
                Due.is("level(" + n + ", " + l + ")", bus.level(n, l), 0);
            }
            Due.is("noted(" + n + ", 0)", bus.noted(n, 0), -1);
            Due.is("noted(" + n + ", 3)", bus.noted(n, 3), 0);
        }
    }

    private static void nothingIsToBeSpoilt() {
        TokenBus bus = Buses.powered(0, 1);
        Buses.steps(bus, 4);
        Due.is("step()", bus.step(), 2);
        Due.is("node(0, 1)", bus.node(0, 1), 1);
    }

    private static void objectsAreApart() {
        TokenBus one = Buses.powered(0);
        one.sense(0, 5);
        one.step();
        TokenBus other = new TokenBus();
        Due.is("node(0, 0)", other.node(0, 0), 0);
        Due.is("value(0, 0)", other.value(0, 0), 0);
        Due.is("total(0)", other.total(0), 0);
    }
}
