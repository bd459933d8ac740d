import java.util.function.Supplier;

/** Looks whether a call changes anything: a bus with the call goes on as one that was made alike goes on without it. */
final class Unchanged {
    /** One call, its answer as a number (1 or 0 for a boolean). */
    interface Call {
        long on(TokenBus bus);
    }

    private static final int STEPS_BEHIND = 20;

    private Unchanged() {
    }

    static void inEveryState(String name, Call call, long due) {
        for (Supplier<TokenBus> state : States.ALL) {
            in(state, name, call, due);
        }
    }

    static void falseInEveryState(String name, java.util.function.Predicate<TokenBus> call) {
        inEveryState(name, bus -> call.test(bus) ? 1 : 0, 0);
    }

    static void in(Supplier<TokenBus> state, String name, Call call, long due) {
        for (int part = 0; part < Sight.PARTS; part++) {
            TokenBus with = state.get();
            TokenBus without = state.get();
            Due.is(name, call.on(with), due);
            Sight.same("behind " + name, Sight.part(with, part), Sight.part(without, part));
            for (int k = 1; k <= STEPS_BEHIND; k++) {
                Due.is("step() " + k + " behind " + name, with.step(), without.step());
                if (k == 1 || k == 4 || k == STEPS_BEHIND) {
                    Sight.same(k + " steps behind " + name, Sight.part(with, part), Sight.part(without, part));
                }
            }
        }
    }
}
