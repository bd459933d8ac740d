/** Promise 3: sense. */
public final class Promise03SenseTest {
    public static void main(String[] args) {
        TokenBus bus = new TokenBus();
        for (int n = 0; n < 6; n++) {
            Due.is("sense(" + n + ", 10 + n)", bus.sense(n, 10 + n), true);
        }
        for (int n = 0; n < 6; n++) {
            Due.is("value(" + n + ", 0)", bus.value(n, 0), 10 + n);
            Due.is("value(" + n + ", 1)", bus.value(n, 1), 0);
            Due.is("value(" + n + ", 2)", bus.value(n, 2), 0);
        }
        for (int value : new int[] {-10000, 10000, 0, -1}) {
            Due.is("sense(2, " + value + ")", bus.sense(2, value), true);
            Due.is("value(2, 0)", bus.value(2, 0), value);
        }
        for (int value : new int[] {-10001, 10001, Integer.MIN_VALUE, Integer.MAX_VALUE}) {
            Due.is("sense(2, " + value + ")", bus.sense(2, value), false);
            Due.is("value(2, 0)", bus.value(2, 0), -1);
        }
        for (int n : new int[] {-1, 6, Integer.MIN_VALUE, Integer.MAX_VALUE}) {
            Due.is("sense(" + n + ", 0)", bus.sense(n, 0), false);
        }
        Due.end();
    }
}
