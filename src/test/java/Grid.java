import java.util.function.Supplier;

/**
 * Calls with arguments at their edges on objects of one state. Those that are due to throw go to one
 * object, which must answer like its twin behind them; each of the others goes to a fresh one.
 */
final class Grid {
    interface Use {
        Object answer(PhraseFerry x);
    }

    // With those that make the state and those of the probe they stay below 512.
    private static final int MOST_REFUSED = 100;

    private final Check check;
    private final Supplier<PhraseFerry> state;
    private PhraseFerry refusing;
    private int refused;

    Grid(Check check, Supplier<PhraseFerry> state) {
        this.check = check;
        this.state = state;
    }

    /** The class that is due to be thrown, the one documented first; null if the call is due to answer. */
    static Class<? extends RuntimeException> due(boolean isThere, boolean isRight, boolean hasRoom) {
        return !isThere ? IndexOutOfBoundsException.class : !isRight ? IllegalArgumentException.class
                : !hasRoom ? IllegalStateException.class : null;
    }

    void call(String name, Class<? extends RuntimeException> due, Object want, Use use) {
        if (due == null) {
            PhraseFerry fresh = state.get();
            check.is(name, Check.answerOf(() -> use.answer(fresh)), String.valueOf(want));
            return;
        }
        refusing = refusing == null ? state.get() : refusing;
        check.fails(name, due, () -> use.answer(refusing));
        refused++;
        if (refused == MOST_REFUSED) {
            end(name);
        }
    }

    /** What was refused so far, the last of it by this name, has changed nothing. */
    void end(String name) {
        if (refusing != null) {
            check.is("answers behind " + name, Probe.answers(refusing), Probe.answers(state.get()));
        }
        refusing = null;
        refused = 0;
    }
}
