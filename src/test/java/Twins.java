import java.util.ArrayList;
import java.util.List;
import java.util.function.Consumer;
import java.util.function.Function;

/**
 * Calls that throw, made one behind the other on a laboratory; at the end one on which they were made must
 * answer as one on which they were not, which shows that a call which throws changes nothing.
 */
final class Twins {
    private final Check check;
    private final Consumer<Shakerhall> setUp;
    private final Shakerhall tried;
    private final List<Function<Shakerhall, Object>> calls = new ArrayList<>();

    Twins(Check check, Consumer<Shakerhall> setUp) {
        this.check = check;
        this.setUp = setUp;
        tried = Edges.made(setUp);
    }

    Twins fails(String what, Class<? extends Throwable> due, Function<Shakerhall, Object> call) {
        check.fails(what, due, () -> call.apply(tried));
        calls.add(call);
        return this;
    }

    void areAlike(String what) {
        check.same(what + " leaves all as it was", Answers.of(() -> Edges.made(setUp)), Answers.of(this::triedAgain));
    }

    private Shakerhall triedAgain() {
        Shakerhall lab = Edges.made(setUp);
        for (Function<Shakerhall, Object> call : calls) {
            Check.outcome(() -> call.apply(lab));
        }
        return lab;
    }
}
