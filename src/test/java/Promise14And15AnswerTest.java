/** Promises 14 and 15: state and answer. */
public final class Promise14And15AnswerTest {
    public static void main(String[] args) {
        TokenBus bus = Buses.ring(0, 1);
        int[][] wrongNumbers = {{-1}, {0}, {60}, {Integer.MIN_VALUE}, {Integer.MAX_VALUE}};
        for (int[] r : wrongNumbers) {
            both(bus, r[0], -1, 0);
        }
        bus.sense(1, -44);
        bus.request(0, 1, Buses.what(Buses.READ, 0, 0), 9);
        bus.request(0, 1, Buses.what(Buses.READ, 5, 0), 9);
        bus.request(0, 3, Buses.what(Buses.READ, 0, 0), 9);
        bus.request(0, 1, Buses.what(Buses.WRITE, 1, 1), Integer.MIN_VALUE);
        for (int r = 0; r < 4; r++) {
            both(bus, r, 0, 0);
        }
        both(bus, 4, -1, 0);
        bus.step();
        both(bus, 0, 1, -44);
        both(bus, 1, 0, 0);
        bus.step();
        both(bus, 1, 2, 0);
        Buses.stepUntilTokenComes(bus, 0);
        Buses.steps(bus, 2);
        both(bus, 2, 0, 0);
        Buses.stepUntilTokenComes(bus, 0);
        bus.step();
        both(bus, 2, 3, 0);
        bus.spoil(1, 17, 255);
        bus.step();
        both(bus, 3, 0, 0);
        Buses.stepUntilTokenComes(bus, 0);
        bus.step();
        both(bus, 3, 1, Integer.MIN_VALUE);
        bus.sense(1, 45);
        both(bus, 0, 1, -44);
        Due.end();
    }

    private static void both(TokenBus bus, int r, int state, int answer) {
        Due.is("state(" + r + ")", bus.state(r), state);
        Due.is("answer(" + r + ")", bus.answer(r), answer);
    }
}
