/** Promise 6: spoil, and which frames arrive. */
public final class Promise06SpoilTest {
    public static void main(String[] args) {
        refusals();
        refusalKeepsThePlan();
        everySpoiltTokenIsLost();
        everySpoiltAskIsLost();
        everySpoiltAnswerIsLost();
        spoiltHereIsLost();
        noSuchByte();
        noSuchFrame();
        laterPlanReplaces();
        forOneStepOnly();
        noByteStaysSpoilt();
        Due.end();
    }

    private static void refusals() {
        TokenBus bus = new TokenBus();
        int[][] wrong = {{-1, 0, 1}, {2, 0, 1}, {0, -1, 1}, {0, 18, 1}, {1, 0, 0}, {1, 0, 256}, {1, 0, -1},
            {Integer.MIN_VALUE, 0, 1}, {0, Integer.MAX_VALUE, 1}, {0, 0, Integer.MIN_VALUE}};
        for (int[] w : wrong) {
            Due.is("spoil(" + w[0] + ", " + w[1] + ", " + w[2] + ")", bus.spoil(w[0], w[1], w[2]), false);
        }
        int[][] right = {{0, 0, 1}, {1, 0, 1}, {0, 17, 1}, {0, 0, 255}, {1, 17, 255}};
        for (int[] r : right) {
            Due.is("spoil(" + r[0] + ", " + r[1] + ", " + r[2] + ")", bus.spoil(r[0], r[1], r[2]), true);
        }
    }

    private static void refusalKeepsThePlan() {
        TokenBus bus = Buses.ring(0, 1);
        bus.spoil(0, 4, 2);
        bus.spoil(2, 0, 1);
        bus.spoil(0, 18, 1);
        bus.spoil(1, 3, 256);
        bus.step();
        Due.is("frame(0, 4)", bus.frame(0, 4), 2);
        Due.is("holder()", bus.holder(), 0);
    }

    private static void everySpoiltTokenIsLost() {
        for (int at = 0; at < 8; at++) {
            for (int mask = 1; mask < 256; mask++) {
                TokenBus bus = Buses.ring(0, 1);
                int plain = new int[] {85, 255, 0, 1, 0, 0, 0, tokenCheck()}[at];
                bus.spoil(0, at, mask);
                Due.is("step()", bus.step(), 1);
                Due.is("frame(0, " + at + ")", bus.frame(0, at), plain ^ mask);
                Due.is("holder() with byte " + at + " xored with " + mask, bus.holder(), 0);
                Due.is("phase()", bus.phase(), Buses.PASS);
            }
        }
    }

    private static int tokenCheck() {
        TokenBus bus = Buses.ring(0, 1);
        bus.step();
        return bus.frame(0, 7);
    }

    private static void everySpoiltAskIsLost() {
        for (int at = 0; at < 18; at++) {
            for (int mask = 1; mask < 256; mask++) {
                TokenBus bus = Buses.ring(0, 1);
                bus.spoil(0, at, mask);
                Buses.ask(bus, 1, Buses.what(Buses.WRITE, 1, 4), 0x12345678);
                Due.is("frame(1, -1) with byte " + at + " xored with " + mask, bus.frame(1, -1), 0);
                Due.is("set(1, 4)", bus.set(1, 4), false);
                Due.is("state(0)", bus.state(0), 0);
            }
        }
    }

    private static void everySpoiltAnswerIsLost() {
        for (int at = 0; at < 18; at++) {
            for (int mask = 1; mask < 256; mask++) {
                TokenBus bus = Buses.ring(0, 1);
                bus.spoil(1, at, mask);
                Buses.ask(bus, 1, Buses.what(Buses.WRITE, 1, 4), 0x12345678);
                Due.is("frame(1, -1)", bus.frame(1, -1), 18);
                Due.is("level(1, 4)", bus.level(1, 4), 0x12345678);
                Due.is("state(0) with byte " + at + " xored with " + mask, bus.state(0), 0);
            }
        }
    }

    private static void spoiltHereIsLost() {
        TokenBus bus = Buses.powered(0, 1);
        Buses.steps(bus, 4);
        bus.spoil(1, 6, 128);
        Due.is("step()", bus.step(), 2);
        Due.is("frame(1, 6)", bus.frame(1, 6), 128);
        Due.is("node(0, 1)", bus.node(0, 1), 0);
        Due.is("node(0, 2)", bus.node(0, 2), 1);
    }

    private static void noSuchByte() {
        for (int at = 8; at < 18; at++) {
            TokenBus bus = Buses.ring(0, 1);
            Due.is("spoil(0, " + at + ", 255)", bus.spoil(0, at, 255), true);
            bus.step();
            Due.is("holder()", bus.holder(), 1);
            Due.is("frame(0, -1)", bus.frame(0, -1), 8);
        }
    }

    private static void noSuchFrame() {
        TokenBus bus = Buses.ring(0, 1);
        bus.spoil(1, 3, 255);
        bus.step();
        Due.is("holder()", bus.holder(), 1);
        bus.step();
        Due.is("holder()", bus.holder(), 0);
    }

    private static void laterPlanReplaces() {
        TokenBus other = Buses.ring(0, 1);
        other.spoil(0, 3, 1);
        other.spoil(1, 3, 1);
        other.step();
        Due.is("holder()", other.holder(), 1);
        TokenBus same = Buses.ring(0, 1);
        same.spoil(0, 3, 1);
        same.spoil(0, 4, 8);
        same.step();
        Due.is("frame(0, 3)", same.frame(0, 3), 1);
        Due.is("frame(0, 4)", same.frame(0, 4), 8);
    }

    private static void noByteStaysSpoilt() {
        int[] plain = {85, 255, 0, 1, 0, 0, 0, tokenCheck()};
        for (int at = 0; at < 8; at++) {
            TokenBus bus = Buses.ring(0, 1);
            bus.spoil(0, at, 64);
            Buses.steps(bus, 2);
            Due.is("holder()", bus.holder(), 1);
            Due.is("frame(0, " + at + ")", bus.frame(0, at), plain[at]);
        }
    }

    private static void forOneStepOnly() {
        TokenBus silent = Buses.powered(0, 1);
        Buses.steps(silent, 3);
        silent.spoil(0, 0, 1);
        silent.step();
        Due.is("step() after a silent one", silent.step(), 2);
        TokenBus ring = Buses.ring(0, 1);
        ring.spoil(0, 0, 1);
        ring.step();
        Due.is("holder()", ring.holder(), 0);
        ring.step();
        Due.is("holder()", ring.holder(), 1);
    }
}
