/** Promise 6 at its boundaries. */
public final class BoundarySpoilTest {
    public static void main(String[] args) {
        falseWhenWhichIsNeither();
        falseWhenAtIsOutOfItsRange();
        falseWhenMaskIsOutOfItsRange();
        everythingUpToBothEnds();
        ifThereIsSuchAByte();
        ifThereIsSuchAFrame();
        inPlaceOfWhatWasToBeSpoilt();
        inTheNextStepOnly();
        Due.end();
    }

    private static void refused(int which, int at, int mask) {
        Unchanged.falseInEveryState("spoil(" + which + ", " + at + ", " + mask + ")",
            bus -> bus.spoil(which, at, mask));
    }

    /** "False when which is neither". */
    private static void falseWhenWhichIsNeither() {
        for (int which : Edge.outside(0, 1)) {
            refused(which, 0, 1);
            refused(which, 17, 255);
        }
    }

    /** "at is not 0 .. 17". */
    private static void falseWhenAtIsOutOfItsRange() {
        for (int at : Edge.outside(0, 17)) {
            refused(0, at, 1);
            refused(1, at, 255);
        }
    }

    /** "or mask not 1 .. 255". */
    private static void falseWhenMaskIsOutOfItsRange() {
        for (int mask : Edge.outside(1, 255)) {
            refused(0, 0, mask);
            refused(1, 17, mask);
        }
        refused(0, 7, -1);
        refused(0, 7, 257);
    }

    /** Byte "at" of frame "which" is xored with mask, the least and the greatest of each; only that byte. */
    private static void everythingUpToBothEnds() {
        for (int which = 0; which < 2; which++) {
            for (int at = 0; at < 18; at++) {
                for (int mask : Edge.inside(1, 255)) {
                    spoilOne(which, at, mask);
                }
            }
        }
    }

    private static void spoilOne(int which, int at, int mask) {
        TokenBus plain = asked();
        plain.step();
        TokenBus spoilt = asked();
        Due.is("spoil(" + which + ", " + at + ", " + mask + ")", spoilt.spoil(which, at, mask), true);
        Due.is("step()", spoilt.step(), 1 + which);
        Due.is("frame(" + which + ", -1)", spoilt.frame(which, -1), 18);
        for (int i = 0; i < 18; i++) {
            int due = plain.frame(which, i) ^ (i == at ? mask : 0);
            Due.is("frame(" + which + ", " + i + ")", spoilt.frame(which, i), due);
            if (which == 1) {
                Due.is("frame(0, " + i + ")", spoilt.frame(0, i), plain.frame(0, i));
            }
        }
        Due.is("state(0)", spoilt.state(0), 0);
    }

    private static TokenBus asked() {
        TokenBus bus = Buses.ring(2, 3);
        bus.request(2, 3, Buses.what(Buses.WRITE, 1, 11), 0x01FF7F80);
        return bus;
    }

    /** "if there is such a byte": a TOKEN has the bytes 0 to 7, an ASK and a TELL 0 to 17. */
    private static void ifThereIsSuchAByte() {
        for (int at = 0; at < 18; at++) {
            TokenBus bus = Buses.ring(0, 1);
            Due.is("spoil(0, " + at + ", 1)", bus.spoil(0, at, 1), true);
            Due.is("step()", bus.step(), 1);
            Due.is("holder() behind byte " + at, bus.holder(), at < 8 ? 0 : 1);
            Due.is("frame(0, -1)", bus.frame(0, -1), 8);
            Due.is("frame(0, 8)", bus.frame(0, 8), TokenBus.REFUSED);
        }
        for (int at = 7; at < 10; at++) {
            TokenBus bus = Buses.powered(0, 1);
            Buses.steps(bus, 4);
            bus.spoil(1, at, 1);
            bus.step();
            Due.is("node(0, 1) with byte " + at + " of HERE spoilt", bus.node(0, 1), at < 8 ? 0 : 1);
        }
    }

    /** There is no frame 1 behind a TOKEN, and none at all in a silent step: then nothing is spoilt. */
    private static void ifThereIsSuchAFrame() {
        TokenBus ring = Buses.ring(0, 1);
        ring.spoil(1, 0, 255);
        ring.step();
        Due.is("holder()", ring.holder(), 1);
        Due.is("frame(1, -1)", ring.frame(1, -1), 0);
        TokenBus silent = Buses.powered(0, 1);
        for (int k = 0; k < 4; k++) {
            Due.is("spoil(0, 0, 255)", silent.spoil(k % 2, 0, 255), true);
            Due.is("step()", silent.step(), 0);
        }
        Due.is("step()", silent.step(), 2);
        Due.is("node(0, 1)", silent.node(0, 1), 1);
    }

    /** "in place of what was to be spoilt": only the last plan counts, whichever frame and byte it names. */
    private static void inPlaceOfWhatWasToBeSpoilt() {
        int[][] plans = {{0, 4, 8}, {0, 3, 2}, {0, 3, 1}, {1, 3, 1}, {0, 17, 1}};
        for (int[] first : plans) {
            for (int[] second : plans) {
                TokenBus both = Buses.ring(0, 1);
                both.spoil(first[0], first[1], first[2]);
                Due.is("spoil in place", both.spoil(second[0], second[1], second[2]), true);
                TokenBus one = Buses.ring(0, 1);
                one.spoil(second[0], second[1], second[2]);
                Due.is("step()", both.step(), one.step());
                for (int i = 0; i < 8; i++) {
                    Due.is("frame(0, " + i + ")", both.frame(0, i), one.frame(0, i));
                }
                Due.is("holder()", both.holder(), one.holder());
            }
        }
    }

    /** "In the next step": not in the one behind it, and each byte is whole again then. */
    private static void inTheNextStepOnly() {
        TokenBus plain = asked();
        plain.step();
        for (int which = 0; which < 2; which++) {
            int[] whole = new int[18];
            for (int i = 0; i < 18; i++) {
                whole[i] = plain.frame(which, i);
            }
            for (int at = 0; at < 18; at++) {
                TokenBus bus = asked();
                bus.spoil(which, at, 255);
                bus.step();
                Due.is("state(0)", bus.state(0), 0);
                bus.step();
                Due.is("state(0)", bus.state(0), 1);
                for (int i = 0; i < 18; i++) {
                    Due.is("frame(" + which + ", " + i + ") behind byte " + at, bus.frame(which, i), whole[i]);
                }
            }
        }
    }
}
