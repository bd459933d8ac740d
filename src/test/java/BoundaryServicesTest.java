/** The services of the section Terms at their boundaries: which objects, levels and ints are done, and which are an ERROR. */
public final class BoundaryServicesTest {
    private static final int ANSWERED = 1;
    private static final int ERROR = 2;

    public static void main(String[] args) {
        readObjects();
        readDoesNotLookAtTheLevel();
        writeLevels();
        writeAnyInt();
        writeSetpoints();
        writeSetpointOnlyAtLevelZero();
        writeNoOtherObject();
        releaseLevels();
        releaseAnEmptyLevel();
        releaseNoOtherObject();
        subscribeObjects();
        subscribeDoesNotLookAtTheLevel();
        noOtherService();
        theAnswerAsItIsSent();
        Due.end();
    }

    /** Node 1, of a ring with 0, with levels 1, 8 and 16 filled, an input and a setpoint; node 0 has the token. */
    private static TokenBus filled() {
        TokenBus bus = Buses.ring(0, 1);
        bus.sense(1, 50);
        int[][] writings = {{1, 1, 101}, {1, 8, 108}, {1, 16, 116}, {2, 0, 60}};
        for (int[] w : writings) {
            bus.request(0, 1, Buses.what(Buses.WRITE, w[0], w[1]), w[2]);
        }
        Buses.steps(bus, 2);
        Buses.stepUntilTokenComes(bus, 0);
        Buses.steps(bus, 2);
        Buses.stepUntilTokenComes(bus, 0);
        Due.is("node(0, 4)", bus.node(0, 4), 0);
        return bus;
    }

    private static void error(int service, int object, int level, int number) {
        String call = "service " + service + ", object " + object + ", level " + level + ", int " + number;
        TokenBus bus = filled();
        int[] before = Sight.node(bus, 1);
        int r = Buses.ask(bus, 1, Buses.what(service, object, level), number);
        Due.is("state of " + call, bus.state(r), ERROR);
        Due.is("answer of " + call, bus.answer(r), 0);
        Due.is("node(0, 4)", bus.node(0, 4), 0);
        Due.is("the service of the answer to " + call, bus.frame(1, 8), service + 64);
        Due.is("its int", bus.frame(1, 12) + bus.frame(1, 13) + bus.frame(1, 14) + bus.frame(1, 15), 0);
        Sight.same("nothing is done for " + call, Sight.node(bus, 1), before);
    }

    private static TokenBus answered(int service, int object, int level, int number, int answer) {
        String call = "service " + service + ", object " + object + ", level " + level + ", int " + number;
        TokenBus bus = filled();
        int r = Buses.ask(bus, 1, Buses.what(service, object, level), number);
        Due.is("state of " + call, bus.state(r), ANSWERED);
        Due.is("answer of " + call, bus.answer(r), answer);
        Due.is("node(0, 4)", bus.node(0, 4), 0);
        Due.is("the service of the answer to " + call, bus.frame(1, 8), service + 128);
        return bus;
    }

    /** "READ: the answer is the value of object 0, 1 or 2." */
    private static void readObjects() {
        int[] values = {50, 101, 60};
        for (int o = 0; o < 3; o++) {
            answered(Buses.READ, o, 0, 7, values[o]);
        }
        for (int o = 3; o < 8; o++) {
            error(Buses.READ, o, 0, 7);
        }
    }

    /** "level (which READ and SUBSCRIBE do not look at)". */
    private static void readDoesNotLookAtTheLevel() {
        for (int level : new int[] {0, 1, 15, 16, 17, 30, 31}) {
            answered(Buses.READ, 0, level, Integer.MIN_VALUE, 50);
            answered(Buses.READ, 1, level, Integer.MAX_VALUE, 101);
            answered(Buses.READ, 2, level, -1, 60);
            error(Buses.READ, 3, level, 0);
        }
    }

    /** "WRITE: the request's int comes to level 1 .. 16 of object 1". */
    private static void writeLevels() {
        for (int level = 1; level <= 16; level++) {
            TokenBus bus = answered(Buses.WRITE, 1, level, -9, -9);
            for (int l = 1; l <= 16; l++) {
                boolean was = l == 1 || l == 8 || l == 16;
                Due.is("set(1, " + l + ")", bus.set(1, l), was || l == level);
                Due.is("level(1, " + l + ")", bus.level(1, l), l == level ? -9 : was ? 100 + l : 0);
            }
            Due.is("value(1, 1)", bus.value(1, 1), level == 1 ? -9 : 101);
            Due.is("value(1, 2)", bus.value(1, 2), 60);
        }
        for (int level : new int[] {0, 17, 18, 30, 31}) {
            error(Buses.WRITE, 1, level, -9);
        }
    }

    /** A level takes any int. */
    private static void writeAnyInt() {
        for (int number : new int[] {Integer.MIN_VALUE, Integer.MIN_VALUE + 1, -10001, -1, 0, 10001,
            Integer.MAX_VALUE - 1, Integer.MAX_VALUE}) {
            for (int level : new int[] {1, 16}) {
                TokenBus bus = answered(Buses.WRITE, 1, level, number, number);
                Due.is("level(1, " + level + ")", bus.level(1, level), number);
                Due.is("set(1, " + level + ")", bus.set(1, level), true);
            }
        }
    }

    /** "or, if the level is 0 and it is -10000 .. 10000, is the setpoint of object 2". */
    private static void writeSetpoints() {
        for (int number : new int[] {-10000, -9999, -1, 0, 1, 9999, 10000}) {
            TokenBus bus = answered(Buses.WRITE, 2, 0, number, number);
            Due.is("value(1, 2)", bus.value(1, 2), number);
            Due.is("value(1, 1)", bus.value(1, 1), 101);
            Due.is("value(1, 0)", bus.value(1, 0), 50);
        }
        for (int number : Edge.outside(-10000, 10000)) {
            error(Buses.WRITE, 2, 0, number);
        }
    }

    private static void writeSetpointOnlyAtLevelZero() {
        for (int level : new int[] {1, 2, 15, 16, 17, 31}) {
            for (int number : new int[] {-10000, 0, 10000, Integer.MAX_VALUE}) {
                error(Buses.WRITE, 2, level, number);
            }
        }
    }

    private static void writeNoOtherObject() {
        for (int object : new int[] {0, 3, 4, 5, 6, 7}) {
            for (int level : new int[] {0, 1, 16, 17, 31}) {
                error(Buses.WRITE, object, level, 3);
            }
        }
    }

    /** "RELEASE: level 1 .. 16 of object 1 becomes empty." */
    private static void releaseLevels() {
        for (int level = 1; level <= 16; level++) {
            TokenBus bus = answered(Buses.RELEASE, 1, level, Integer.MIN_VALUE, Integer.MIN_VALUE);
            for (int l = 1; l <= 16; l++) {
                boolean stays = l != level && (l == 1 || l == 8 || l == 16);
                Due.is("set(1, " + l + ")", bus.set(1, l), stays);
                Due.is("level(1, " + l + ")", bus.level(1, l), stays ? 100 + l : 0);
            }
            Due.is("value(1, 1)", bus.value(1, 1), level == 1 ? 108 : 101);
        }
        for (int level : new int[] {0, 17, 18, 30, 31}) {
            error(Buses.RELEASE, 1, level, 1);
        }
    }

    private static void releaseAnEmptyLevel() {
        for (int level : new int[] {2, 15}) {
            TokenBus bus = filled();
            int[] before = Sight.node(bus, 1);
            int r = Buses.ask(bus, 1, Buses.what(Buses.RELEASE, 1, level), Integer.MAX_VALUE);
            Due.is("state", bus.state(r), ANSWERED);
            Due.is("answer", bus.answer(r), Integer.MAX_VALUE);
            Sight.same("an empty level stays so", Sight.node(bus, 1), before);
        }
    }

    private static void releaseNoOtherObject() {
        for (int object : new int[] {0, 2, 3, 4, 5, 6, 7}) {
            for (int level : new int[] {0, 1, 8, 16, 17, 31}) {
                error(Buses.RELEASE, object, level, 0);
            }
        }
    }

    /** "SUBSCRIBE: to object 0 or 1". */
    private static void subscribeObjects() {
        for (int object = 0; object < 2; object++) {
            for (int number : new int[] {Integer.MIN_VALUE, 0, Integer.MAX_VALUE}) {
                TokenBus bus = answered(Buses.SUBSCRIBE, object, 0, number, number);
                Due.is("node(1, 6)", bus.node(1, 6), 1);
                Due.is("node(0, 6)", bus.node(0, 6), 0);
            }
        }
        for (int object = 2; object < 8; object++) {
            error(Buses.SUBSCRIBE, object, 0, 0);
        }
    }

    private static void subscribeDoesNotLookAtTheLevel() {
        for (int level : new int[] {0, 1, 15, 16, 17, 30, 31}) {
            for (int object = 0; object < 2; object++) {
                TokenBus bus = answered(Buses.SUBSCRIBE, object, level, 5, 5);
                Due.is("node(1, 6)", bus.node(1, 6), 1);
                Buses.ask(bus, 1, Buses.what(Buses.SUBSCRIBE, object, 31 - level), 5);
                Due.is("node(1, 6): with another level it is the same", bus.node(1, 6), 1);
            }
            error(Buses.SUBSCRIBE, 2, level, 5);
        }
    }

    /** "Any other service .. is an ERROR, and nothing is done": services are 1 to 4. */
    private static void noOtherService() {
        for (int service : new int[] {0, 5, 6, 7}) {
            for (int object = 0; object < 8; object++) {
                for (int level : new int[] {0, 1, 8, 16, 17, 31}) {
                    error(service, object, level, 0);
                }
            }
            error(service, 1, 1, Integer.MIN_VALUE);
            error(service, 2, 0, Integer.MAX_VALUE);
        }
    }

    /** "a TELL back, with the service plus 128, or plus 64 for an error, the id, object and level as asked". */
    private static void theAnswerAsItIsSent() {
        int[][] asked = {{1, 2, 31}, {2, 1, 16}, {2, 1, 17}, {3, 1, 1}, {3, 1, 0}, {4, 0, 31}, {4, 7, 31}, {0, 0, 0},
            {7, 7, 31}};
        boolean[] done = {true, true, false, true, false, true, false, false, false};
        for (int k = 0; k < asked.length; k++) {
            int[] a = asked[k];
            TokenBus bus = filled();
            int r = Buses.ask(bus, 1, Buses.what(a[0], a[1], a[2]), 0x80FF0001);
            int[] due = {85, 255, 6, 0, 1, 0, 8, -1, a[0] + (done[k] ? 128 : 64), r, a[1], a[2]};
            for (int i = 0; i < due.length; i++) {
                if (i != 7) {
                    Due.is("frame(1, " + i + ")", bus.frame(1, i), due[i]);
                }
            }
            int[] number = done[k] ? a[0] == 1 ? new int[] {0, 0, 0, 60} : new int[] {128, 255, 0, 1} : new int[4];
            for (int i = 0; i < 4; i++) {
                Due.is("frame(1, " + (12 + i) + ")", bus.frame(1, 12 + i), number[i]);
            }
        }
    }
}
