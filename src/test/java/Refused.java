import java.util.List;
import java.util.function.Function;
import java.util.function.Supplier;
import java.util.function.ToIntFunction;

/** Calls that answer with an error or NONE, and must have changed nothing. */
final class Refused {
    private static final List<Function<FlameGuards, List<Integer>>> VIEWS =
            List.of(Seen::all, Seen::behindUndo, Seen::behindRestore, Seen::behindReadPlan);
    private static final int[] NO_BURNERS = {Integer.MIN_VALUE, -1, 4, Integer.MAX_VALUE};

    private Refused() {
    }

    /** A call with the number of a burner. */
    interface BurnerCall {
        int on(FlameGuards x, int burner);
    }

    /** The call answers as is due, and the object as a twin that was not called. */
    static void due(Check c, String call, Supplier<FlameGuards> made, ToIntFunction<FlameGuards> refused, int answer) {
        for (Function<FlameGuards, List<Integer>> view : VIEWS) {
            FlameGuards x = made.get();
            c.due(call, refused.applyAsInt(x), answer);
            c.isTrue(call + " changed something", view.apply(x).equals(view.apply(made.get())));
        }
    }

    static void noBurner(Check c, String name, BurnerCall call) {
        for (int burner : NO_BURNERS) {
            due(c, name + " of " + burner, Given::rich, x -> call.on(x, burner), FlameGuards.UNKNOWN);
        }
        for (int burner = 0; burner < 4; burner++) {
            c.isTrue(name + " does not know " + burner, call.on(Given.rich(), burner) != FlameGuards.UNKNOWN);
        }
    }
}
