import java.util.NoSuchElementException;
import java.util.function.Consumer;

/** Calls that throw, and leave a house as a twin that was not asked. */
final class Refusal {
    private Refusal() {
    }

    static void outOfBounds(String call, Consumer<Jamhouse> wrong, State... states) {
        dueIn(states, IndexOutOfBoundsException.class, call, wrong);
    }

    static void badArgument(String call, Consumer<Jamhouse> wrong, State... states) {
        dueIn(states, IllegalArgumentException.class, call, wrong);
    }

    static void badState(String call, Consumer<Jamhouse> wrong, State... states) {
        dueIn(states, IllegalStateException.class, call, wrong);
    }

    static void unsupported(String call, Consumer<Jamhouse> wrong, State... states) {
        dueIn(states, UnsupportedOperationException.class, call, wrong);
    }

    static void noElement(String call, Consumer<Jamhouse> wrong, State... states) {
        dueIn(states, NoSuchElementException.class, call, wrong);
    }

    /** The same call, or one like it, is answered in another state: nothing but the state was wrong. */
    static void answered(String call, Consumer<Jamhouse> right, State... states) {
        for (State state : states) {
            String got = "an answer";
            try {
                right.accept(state.make());
            } catch (RuntimeException e) {
                got = e.getClass().getSimpleName();
            }
            Check.due(call + " in " + state, got, "an answer");
        }
    }

    private static void dueIn(State[] states, Class<? extends RuntimeException> want, String call,
            Consumer<Jamhouse> wrong) {
        for (State state : states) {
            Jamhouse house = state.make();
            Check.dueThrow(call + " in " + state, want, () -> wrong.accept(house));
            Check.due("all behind " + call + " in " + state, Snapshot.of(house), Snapshot.of(state.make()));
        }
    }
}
