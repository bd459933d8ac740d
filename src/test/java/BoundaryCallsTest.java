import java.util.ArrayList;
import java.util.List;

/** "An object is used for at most 512 calls after it has been made; what later calls answer is free." */
public final class BoundaryCallsTest {
    private static final int MOST_CALLS = 512;
    private static final int CALLS_TO_PREPARE = 30;

    public static void main(String[] args) {
        stepsUpToTheLastCall();
        everyCallAsTheLastOne();
        aBusyLife();
        laterCallsEndAndThrowNothing();
        anyArgumentsThrowNothing();
        Due.end();
    }

    /** The 511th call and the 512th answer as all before. */
    private static void stepsUpToTheLastCall() {
        TokenBus silent = new TokenBus();
        Buses.steps(silent, MOST_CALLS - 2);
        Due.is("total(0) as the 511th call", silent.total(0), MOST_CALLS - 2);
        Due.is("total(3) as the 512th call", silent.total(3), MOST_CALLS - 2);
        TokenBus alone = Buses.powered(0);
        Buses.steps(alone, MOST_CALLS - 3);
        Due.is("total(1) as the 511th call", alone.total(1), MOST_CALLS - 3 - 4 - 1);
        Due.is("step() as the 512th call", alone.step(), 1);
    }

    /** Each kind of call, as the 511th and as the 512th one, answers what it answers early in an equal life. */
    private static void everyCallAsTheLastOne() {
        List<Unchanged.Call> calls = everyKindOfCall();
        for (int k = 0; k < calls.size(); k++) {
            TokenBus early = prepared();
            long due = calls.get(k).on(early);
            for (int number = MOST_CALLS - 1; number <= MOST_CALLS; number++) {
                TokenBus late = prepared();
                for (int call = CALLS_TO_PREPARE + 1; call < number; call++) {
                    late.holder();
                }
                Due.is("call of kind " + k + " as number " + number, calls.get(k).on(late), due);
            }
        }
    }

    /** A life of exactly so many calls: nodes 0 and 1 in a ring, a request answered, a notice noted. */
    private static TokenBus prepared() {
        TokenBus bus = new TokenBus();
        bus.power(0, true);
        bus.power(1, true);
        bus.sense(0, 40);
        bus.gains(0, 3, 4);
        bus.request(0, 1, Buses.what(Buses.SUBSCRIBE, 0, 0), 5);
        bus.request(0, 1, Buses.what(Buses.WRITE, 1, 16), -6);
        for (int k = 0; k < 16; k++) {
            bus.step();
        }
        bus.sense(1, 30);
        bus.spoil(1, 9, 1);
        for (int k = 0; k < 6; k++) {
            bus.step();
        }
        return bus;
    }

    private static List<Unchanged.Call> everyKindOfCall() {
        List<Unchanged.Call> calls = new ArrayList<>();
        calls.add(bus -> bus.power(5, true) ? 1 : 0);
        calls.add(bus -> bus.power(0, false) ? 1 : 0);
        calls.add(bus -> bus.power(0, true) ? 1 : 0);
        calls.add(bus -> bus.sense(0, 10000) ? 1 : 0);
        calls.add(bus -> bus.gains(0, 100, 100) ? 1 : 0);
        calls.add(bus -> bus.request(4, 3, 2047, -1));
        calls.add(bus -> bus.spoil(1, 17, 255) ? 1 : 0);
        calls.add(TokenBus::step);
        calls.add(TokenBus::holder);
        calls.add(TokenBus::phase);
        for (int what = 0; what < 8; what++) {
            int number = what;
            calls.add(bus -> bus.node(0, number));
            calls.add(bus -> bus.noted(0, number));
            calls.add(bus -> bus.total(number));
            calls.add(bus -> bus.frame(0, number));
        }
        calls.add(bus -> bus.value(1, 0));
        calls.add(bus -> bus.value(1, 1));
        calls.add(bus -> bus.level(0, 15));
        calls.add(bus -> bus.set(1, 16) ? 1 : 0);
        calls.add(bus -> bus.state(0));
        calls.add(bus -> bus.answer(1));
        calls.add(bus -> bus.frame(0, -1));
        return calls;
    }

    /** 512 calls, as many of them steps and requests as can be, each answer as the model has it. */
    private static void aBusyLife() {
        TokenBus bus = new TokenBus();
        Model model = new Model();
        for (int call = 1; call <= MOST_CALLS; call++) {
            String name = "call " + call;
            if (call <= 6) {
                Due.is(name, bus.power(call - 1, true), model.power(call - 1, true));
            } else if (call % 6 == 0) {
                int n = call / 6 % 6;
                int target = (n + 1 + call / 36 % 5) % 6;
                int what = 1 + call % 4 + 8 * (call / 6 % 3) + 64 * (call % 17);
                Due.is(name, bus.request(n, target, what, call * 1000003), model.request(n, target, what, call * 1000003));
            } else if (call % 11 == 0) {
                Due.is(name, bus.sense(call % 6, call % 97), model.sense(call % 6, call % 97));
            } else if (call < MOST_CALLS - 3) {
                Due.is(name, bus.step(), model.step());
            } else {
                int what = MOST_CALLS - call;
                Due.is(name, bus.total(what), model.total(what));
            }
        }
    }

    /** Whatever they answer: the language's rule 7 lets no call throw or fail to end, in any state. */
    private static void laterCallsEndAndThrowNothing() {
        TokenBus bus = prepared();
        for (int round = 0; round < 2000; round++) {
            for (Unchanged.Call call : everyKindOfCall()) {
                call.on(bus);
            }
        }
        Due.is("no later call has thrown", true, true);
    }

    private static void anyArgumentsThrowNothing() {
        int[] any = {Integer.MIN_VALUE, Integer.MIN_VALUE + 1, -2, -1, 0, 1, 5, 6, 7, 8, 17, 18, 60, 255, 256, 2047, 2048,
            10000, 10001, Integer.MAX_VALUE - 1, Integer.MAX_VALUE};
        for (int a : any) {
            for (int b : any) {
                TokenBus bus = prepared();
                bus.node(a, b);
                bus.value(a, b);
                bus.level(a, b);
                bus.set(a, b);
                bus.noted(a, b);
                bus.frame(a, b);
                bus.total(a);
                bus.state(a);
                bus.answer(a);
                bus.power(a, b > 0);
                bus.sense(a, b);
                for (int c : any) {
                    bus.gains(a, b, c);
                    bus.spoil(a, b, c);
                    bus.request(a, b, c, c);
                    bus.step();
                }
            }
        }
        Due.is("no call has thrown", true, true);
    }
}
