import java.util.Map;
import java.util.function.Supplier;
import java.util.function.ToIntFunction;

/** Calls that change nothing: whatever is called afterwards answers as if they had not been made. */
final class Unchanged {
    private Unchanged() {
    }

    static void due(Check check, String call, int due, Supplier<LayoutOptimizer> state,
            ToIntFunction<LayoutOptimizer> called) {
        for (Answers.Look look : Answers.Look.values()) {
            LayoutOptimizer x = state.get();
            check.due(call, called.applyAsInt(x), due);
            Answers.to(look, x).due(check, "after " + call, Answers.to(look, state.get()));
        }
    }

    static void dueInEveryState(Check check, String call, int due, ToIntFunction<LayoutOptimizer> called) {
        for (Map.Entry<String, Supplier<LayoutOptimizer>> state : Samples.states().entrySet()) {
            due(check, state.getKey() + ": " + call, due, state.getValue(), called);
        }
    }
}
