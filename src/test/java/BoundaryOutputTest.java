/** "LEVELS 1 .. 16, each an int or empty (at first); its value is that of the least level that is not empty, 0 if all are." */
public final class BoundaryOutputTest {
    public static void main(String[] args) {
        emptyAtFirst();
        oneLevelAlone();
        theLeastThatIsNotEmpty();
        zeroWhenAllAreEmptyAgain();
        zeroIsAnIntToo();
        smallestAndLargestInt();
        theLoopsLevelIsOneOfThem();
        Due.end();
    }

    private static void write(TokenBus bus, int level, int number) {
        carryOut(bus, Buses.what(Buses.WRITE, 1, level), number);
    }

    private static void release(TokenBus bus, int level) {
        carryOut(bus, Buses.what(Buses.RELEASE, 1, level), 0);
    }

    private static void carryOut(TokenBus bus, int what, int number) {
        int r = bus.request(0, 1, what, number);
        for (int k = 0; k < 12 && bus.state(r) == 0; k++) {
            bus.step();
        }
        Due.is("state(" + r + ")", bus.state(r), 1);
    }

    private static void emptyAtFirst() {
        TokenBus bus = new TokenBus();
        for (int n = 0; n < 6; n++) {
            Due.is("value(" + n + ", 1)", bus.value(n, 1), 0);
            for (int l = 1; l <= 16; l++) {
                Due.is("set(" + n + ", " + l + ")", bus.set(n, l), false);
            }
        }
    }

    private static void oneLevelAlone() {
        for (int level = 1; level <= 16; level++) {
            TokenBus bus = Buses.ring(0, 1);
            write(bus, level, 1000 + level);
            Due.is("value(1, 1)", bus.value(1, 1), 1000 + level);
            for (int l = 0; l <= 17; l++) {
                Due.is("set(1, " + l + ")", bus.set(1, l), l == level);
                Due.is("level(1, " + l + ")", bus.level(1, l), l == level ? 1000 + level : 0);
            }
            Due.is("value(0, 1)", bus.value(0, 1), 0);
        }
    }

    /** Each level and the one behind it: the lesser one counts, whichever came first, until it is empty. */
    private static void theLeastThatIsNotEmpty() {
        for (int level = 1; level <= 15; level++) {
            TokenBus rising = Buses.ring(0, 1);
            write(rising, level, -7);
            write(rising, level + 1, 8);
            Due.is("value(1, 1)", rising.value(1, 1), -7);
            TokenBus falling = Buses.ring(0, 1);
            write(falling, level + 1, 8);
            Due.is("value(1, 1)", falling.value(1, 1), 8);
            write(falling, level, -7);
            Due.is("value(1, 1)", falling.value(1, 1), -7);
            release(falling, level);
            Due.is("value(1, 1)", falling.value(1, 1), 8);
        }
    }

    private static void zeroWhenAllAreEmptyAgain() {
        TokenBus bus = Buses.ring(0, 1);
        write(bus, 1, 11);
        write(bus, 16, 26);
        release(bus, 1);
        Due.is("value(1, 1)", bus.value(1, 1), 26);
        release(bus, 16);
        Due.is("value(1, 1)", bus.value(1, 1), 0);
        for (int l = 1; l <= 16; l++) {
            Due.is("set(1, " + l + ")", bus.set(1, l), false);
            Due.is("level(1, " + l + ")", bus.level(1, l), 0);
        }
    }

    private static void zeroIsAnIntToo() {
        for (int level : new int[] {1, 15}) {
            TokenBus bus = Buses.ring(0, 1);
            write(bus, 16, 9);
            write(bus, level, 0);
            Due.is("set(1, " + level + ")", bus.set(1, level), true);
            Due.is("level(1, " + level + ")", bus.level(1, level), 0);
            Due.is("value(1, 1)", bus.value(1, 1), 0);
        }
    }

    private static void smallestAndLargestInt() {
        for (int number : new int[] {Integer.MIN_VALUE, Integer.MIN_VALUE + 1, -2, -1, 1, Integer.MAX_VALUE - 1,
            Integer.MAX_VALUE}) {
            for (int level : new int[] {1, 16}) {
                TokenBus bus = Buses.ring(0, 1);
                write(bus, level, number);
                Due.is("level(1, " + level + ")", bus.level(1, level), number);
                Due.is("value(1, 1)", bus.value(1, 1), number);
                carryOut(bus, Buses.what(Buses.READ, 1, 0), 0);
                Due.is("answer(1)", bus.answer(1), number);
            }
        }
    }

    /** Level 15: above 16, below 14. */
    private static void theLoopsLevelIsOneOfThem() {
        TokenBus bus = Buses.ring(0, 1);
        bus.sense(1, -16);
        bus.gains(1, 5, 0);
        write(bus, 16, 90);
        Due.is("value(1, 1)", bus.value(1, 1), 5);
        write(bus, 14, 91);
        Due.is("value(1, 1)", bus.value(1, 1), 91);
        Due.is("level(1, 15)", bus.level(1, 15), 5);
        Due.is("level(1, 16)", bus.level(1, 16), 90);
    }
}
