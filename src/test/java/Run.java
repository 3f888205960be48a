import java.util.ArrayList;
import java.util.List;

/**
 * A run of calls on a new object, each written like "grant 0 1 128 1 50". It is never changed, only
 * continued. All calls of it must be taken, but for those with a ? ahead of them, which may throw.
 */
final class Run {
    static final Run NEW = new Run(List.of());

    private final List<String> calls;

    private Run(List<String> calls) {
        this.calls = calls;
    }

    Run then(String... more) {
        List<String> all = new ArrayList<>(calls);
        all.addAll(List.of(more));
        return new Run(all);
    }

    Run then(Run other) {
        return then(other.calls.toArray(new String[0]));
    }

    Run times(int count, String call) {
        Run run = this;
        for (int n = 0; n < count; n++) {
            run = run.then(call);
        }
        return run;
    }

    /** Lets days pass, as many at once as may be. */
    Run days(int count) {
        Run run = times(count / 100, "pass 100");
        return count % 100 == 0 ? run : run.then("pass " + count % 100);
    }

    Run hops(int... nets) {
        Run run = this;
        for (int net : nets) {
            run = run.then("hop " + net);
        }
        return run;
    }

    Run heard(String block, int... nets) {
        return hops(nets).then("hear " + block);
    }

    /** The same run, with questions behind each call. */
    Run askedBetween(String... questions) {
        Run run = NEW;
        for (String call : calls) {
            run = run.then(call).then(questions);
        }
        return run;
    }

    Caller played() {
        Caller caller = new Caller();
        for (String call : calls) {
            boolean mayThrow = call.startsWith("?");
            String answer = caller.answer(mayThrow ? call.substring(1) : call);
            if (!mayThrow && answer.startsWith("throws.")) {
                throw new AssertionError(call + " of the run " + this + " " + answer);
            }
        }
        return caller;
    }

    @Override
    public String toString() {
        return calls.size() <= 12 ? calls.toString() : calls.size() + " calls, the last ones "
                + calls.subList(calls.size() - 4, calls.size());
    }

    String written() {
        return calls.toString();
    }
}
