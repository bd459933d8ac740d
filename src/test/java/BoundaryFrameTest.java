/** Frames at their boundaries: which arrive, and what their bytes are for the least and greatest of all that they carry. */
public final class BoundaryFrameTest {
    private static final int[] MASKS = {1, 2, 4, 8, 16, 32, 64, 128, 254, 255};

    public static void main(String[] args) {
        tokenArrives();
        pollAndHereArrive();
        askArrives();
        answerArrives();
        noticeArrives();
        theDestinationIsPowered();
        fourBytesOfAnInt();
        everyPairOfNodes();
        typesWithoutData();
        bytesOfANotice();
        checksOfEveryFrame();
        Due.end();
    }

    private static String with(int at, int mask) {
        return " with byte " + at + " xored with " + mask;
    }

    /** "if both first bytes, the header's check .. are right": each byte, each of its bits, and all of them. */
    private static void tokenArrives() {
        for (int at = 0; at < 10; at++) {
            for (int mask : MASKS) {
                TokenBus bus = Buses.ring(0, 1);
                bus.spoil(0, at, mask);
                bus.step();
                Due.is("holder()" + with(at, mask), bus.holder(), at < 8 ? 0 : 1);
                Due.is("node(1, 5)" + with(at, mask), bus.node(1, 5), at < 8 ? 1 : 2);
            }
        }
    }

    private static void pollAndHereArrive() {
        for (int which = 0; which < 2; which++) {
            for (int at = 0; at < 10; at++) {
                for (int mask : MASKS) {
                    TokenBus bus = Buses.powered(0, 1, 2);
                    Buses.steps(bus, 4);
                    bus.spoil(which, at, mask);
                    Due.is("step()" + with(at, mask), bus.step(), which == 0 && at < 8 ? 1 : 2);
                    Due.is("node(0, 1)" + with(at, mask), bus.node(0, 1), at < 8 ? 0 : 1);
                }
            }
        }
    }

    /** "if the header tells of data, as many bytes and their check are right". */
    private static void askArrives() {
        for (int at = 0; at < 18; at++) {
            for (int mask : MASKS) {
                TokenBus bus = Buses.ring(0, 1);
                bus.spoil(0, at, mask);
                Buses.ask(bus, 1, Buses.what(Buses.WRITE, 1, 4), -1);
                Due.is("set(1, 4)" + with(at, mask), bus.set(1, 4), false);
                Due.is("frame(1, -1)" + with(at, mask), bus.frame(1, -1), 0);
                Due.is("state(0)" + with(at, mask), bus.state(0), 0);
            }
        }
    }

    private static void answerArrives() {
        for (int at = 0; at < 18; at++) {
            for (int mask : MASKS) {
                TokenBus bus = Buses.ring(0, 1);
                bus.spoil(1, at, mask);
                Buses.ask(bus, 1, Buses.what(Buses.WRITE, 1, 4), -1);
                Due.is("level(1, 4)" + with(at, mask), bus.level(1, 4), -1);
                Due.is("state(0)" + with(at, mask), bus.state(0), 0);
                Due.is("node(0, 4)" + with(at, mask), bus.node(0, 4), 1);
            }
        }
    }

    private static void noticeArrives() {
        for (int at = 0; at < 18; at++) {
            for (int mask : MASKS) {
                TokenBus bus = noticeToCome();
                bus.spoil(0, at, mask);
                Due.is("step()", bus.step(), 1);
                Due.is("noted(0, 3)" + with(at, mask), bus.noted(0, 3), 0);
            }
        }
        TokenBus bus = noticeToCome();
        bus.step();
        Due.is("noted(0, 3) unspoilt", bus.noted(0, 3), 1);
    }

    private static TokenBus noticeToCome() {
        TokenBus bus = Buses.ring(0, 1);
        Buses.ask(bus, 1, Buses.what(Buses.SUBSCRIBE, 0, 0), 0);
        bus.sense(1, 10);
        Buses.stepUntilTokenComes(bus, 1);
        return bus;
    }

    /** "and the destination is powered". */
    private static void theDestinationIsPowered() {
        TokenBus token = Buses.ring(0, 1);
        token.power(1, false);
        Due.is("step()", token.step(), 1);
        Due.is("holder()", token.holder(), 0);
        token.power(1, true);
        token.step();
        Due.is("holder()", token.holder(), 1);
        TokenBus ask = Buses.ring(0, 1);
        ask.power(1, false);
        Buses.ask(ask, 1, Buses.what(Buses.WRITE, 1, 1), 5);
        Due.is("set(1, 1)", ask.set(1, 1), false);
        Due.is("frame(0, -1)", ask.frame(0, -1), 18);
        Due.is("frame(1, -1)", ask.frame(1, -1), 0);
        ask.power(1, true);
        ask.step();
        Due.is("level(1, 1)", ask.level(1, 1), 5);
        TokenBus notice = noticeToCome();
        notice.power(0, false);
        Due.is("step()", notice.step(), 1);
        Due.is("noted(0, 3)", notice.noted(0, 3), 0);
        TokenBus poll = Buses.powered(0);
        Buses.steps(poll, 4);
        Due.is("step()", poll.step(), 1);
        Due.is("frame(1, -1)", poll.frame(1, -1), 0);
        Due.is("node(0, 1)", poll.node(0, 1), 0);
    }

    /** "and an int, the highest byte first". */
    private static void fourBytesOfAnInt() {
        int[] numbers = {Integer.MIN_VALUE, Integer.MAX_VALUE, -1, 0, 1, 255, 256, 65535, 65536, 16777215, 16777216, -256,
            -257, -65536, -65537};
        for (int number : numbers) {
            TokenBus bus = Buses.ring(0, 1);
            Buses.ask(bus, 1, Buses.what(Buses.WRITE, 1, 3), number);
            for (int which = 0; which < 2; which++) {
                for (int i = 0; i < 4; i++) {
                    int due = number >>> 8 * (3 - i) & 255;
                    Due.is("frame(" + which + ", " + (12 + i) + ") of " + number, bus.frame(which, 12 + i), due);
                }
            }
            Due.is("answer(0)", bus.answer(0), number);
        }
    }

    /** The bytes of destination and source, for each pair of nodes that can have a ring. */
    private static void everyPairOfNodes() {
        for (int a = 0; a < 6; a++) {
            for (int b = a + 1; b < 6; b++) {
                TokenBus bus = Buses.ring(a, b);
                int[][] pairs = {{a, b}, {b, a}};
                for (int[] pair : pairs) {
                    if (bus.holder() != pair[0]) {
                        Buses.stepUntilTokenComes(bus, pair[0]);
                    }
                    Buses.ask(bus, pair[1], 1, 0);
                    header(bus, 0, 5, pair[1], pair[0], 8);
                    header(bus, 1, 6, pair[0], pair[1], 8);
                }
            }
        }
    }

    private static void header(TokenBus bus, int which, int... typeToFromData) {
        int[] due = {85, 255, typeToFromData[0], typeToFromData[1], typeToFromData[2], 0, typeToFromData[3]};
        for (int i = 0; i < due.length; i++) {
            Due.is("frame(" + which + ", " + i + ")", bus.frame(which, i), due[i]);
        }
    }

    /** "0 TOKEN, 1 POLL, 2 HERE": eight bytes, of which the seventh tells of no data, between the first and the last node. */
    private static void typesWithoutData() {
        for (int joining = 0; joining < 2; joining++) {
            int h = joining == 0 ? 0 : 5;
            TokenBus bus = Buses.ring(0, 5);
            Buses.stepUntilCountIsThree(bus, h);
            if (h == 0) {
                bus.power(1, true);
                Due.is("step()", bus.step(), 2);
                header(bus, 0, 1, 1, 0, 0);
                header(bus, 1, 2, 0, 1, 0);
                Due.is("frame(1, -1)", bus.frame(1, -1), 8);
            }
            Due.is("step()", bus.step(), 1);
            header(bus, 0, 0, h == 0 ? 1 : 0, h, 0);
            Due.is("frame(0, -1)", bus.frame(0, -1), 8);
        }
    }

    /** "a TELL with service 5, id 0, the object, level 0 and the object's value": the ends of input and output. */
    private static void bytesOfANotice() {
        int[][] cases = {{0, -10000}, {0, 10000}, {1, Integer.MIN_VALUE}, {1, Integer.MAX_VALUE}, {1, -1}};
        for (int[] c : cases) {
            TokenBus bus = Buses.ring(0, 1);
            Buses.ask(bus, 1, Buses.what(Buses.WRITE, 1, 16), 1000);
            Buses.ask(bus, 1, Buses.what(Buses.SUBSCRIBE, c[0], 31), 77);
            Buses.stepUntilTokenComes(bus, 0);
            if (c[0] == 0) {
                bus.sense(1, c[1]);
            } else {
                Buses.ask(bus, 1, Buses.what(Buses.WRITE, 1, 1), c[1]);
            }
            Buses.stepUntilTokenComes(bus, 1);
            Due.is("step()", bus.step(), 1);
            header(bus, 0, 6, 0, 1, 8);
            int[] due = {5, 0, c[0], 0, c[1] >>> 24, c[1] >>> 16 & 255, c[1] >>> 8 & 255, c[1] & 255};
            for (int i = 0; i < 8; i++) {
                Due.is("frame(0, " + (8 + i) + ") of the notice", bus.frame(0, 8 + i), due[i]);
            }
            Due.is("frame(0, -1)", bus.frame(0, -1), 18);
            Due.is("frame(1, -1): nothing is sent back", bus.frame(1, -1), 0);
        }
    }

    /** The checks, made anew by the document's words from the bytes that went over the bus, in a run of many kinds. */
    private static void checksOfEveryFrame() {
        TokenBus bus = Buses.powered(0, 1, 5);
        int calls = 3;
        for (int k = 0; calls < 450; k++) {
            if (k % 5 == 0) {
                bus.request(k % 2, 5, k * 37 % 2048, k * 0x01234567);
                calls++;
            }
            bus.step();
            calls++;
            for (int which = 0; which < 2; which++) {
                calls += checksOf(bus, which);
            }
        }
    }

    /** Answers how many calls it has made. */
    private static int checksOf(TokenBus bus, int which) {
        int size = bus.frame(which, -1);
        int[] bytes = new int[size];
        for (int i = 0; i < size; i++) {
            bytes[i] = bus.frame(which, i);
        }
        if (size > 0) {
            Due.is("the header's check", bytes[7], check(bytes, 2, 7, 255, 129));
            Due.is("the number of data bytes", bytes[6], size > 8 ? size - 10 : 0);
        }
        if (size > 8) {
            Due.is("the check of data", bytes[16] + 256 * bytes[17], check(bytes, 8, 16, 65535, 33800));
        }
        return 1 + size;
    }

    private static int check(int[] bytes, int from, int to, int start, int xor) {
        int c = start;
        for (int i = from; i < to; i++) {
            for (int rest = bytes[i], bit = 0; bit < 8; bit++, rest /= 2) {
                c = c % 2 != rest % 2 ? c / 2 ^ xor : c / 2;
            }
        }
        return start - c;
    }
}
