import java.util.HashMap;
import java.util.LinkedHashSet;
import java.util.Map;
import java.util.Set;

/**
 * Holds what the program answers against single sentences of the document: a test names its section
 * and its words, which must stand there, and then the runs of calls that would answer otherwise if
 * the sentence did not hold.
 */
final class Sentences {
    private final Due due;
    private final Document document;
    private final Map<String, String> traces = new HashMap<>();
    private String heading = "";
    private String quote = "";

    Sentences(Due due, Document document) {
        this.due = due;
        this.document = document;
    }

    void section(String name) {
        heading = name;
        due.same("the document has the section " + name, true, document.hasSection(name));
    }

    void says(String words) {
        quote = words;
        due.same("the document says in " + heading + ": " + words, true, document.says(heading, words));
        document.name(heading, words);
    }

    private String name(Run run, String call) {
        return heading + " | " + quote + " | after " + run + ": " + call;
    }

    /** What a call answers behind a run. */
    void is(Run run, String call, long want) {
        due.same(name(run, call), String.valueOf(want), run.played().answer(call));
    }

    /** What a call answers on a new object. */
    void is(String call, long want) {
        is(Run.NEW, call, want);
    }

    /** The call throws the very exception, and leaves the object as if it had never been. */
    void refuses(Run run, String call, Class<? extends RuntimeException> kind) {
        due.same(name(run, call), Caller.thrown(kind), run.played().answer(call));
        same(name(run, call) + " changed something", traceOf(run), Trace.of(run.then("?" + call)));
    }

    void refuses(String call, Class<? extends RuntimeException> kind) {
        refuses(Run.NEW, call, kind);
    }

    /** Questions that answer leave the object as if they had never been. */
    void changesNothing(Run run, String... questions) {
        same(name(run, String.join(", ", questions)) + " changed something",
                traceOf(run), Trace.of(run.then(questions)));
    }

    /** Two runs leave the same object behind. */
    void sameBehind(Run one, Run other) {
        same(name(one, "") + " is as after " + other, traceOf(one), traceOf(other));
    }

    /**
     * A call with # in place of a number takes the least and the greatest number, and refuses those
     * beside them and those that only a wrap-around would bring between them.
     */
    void bounds(Run run, String call, int least, int most, Class<? extends RuntimeException> kind) {
        takes(run, call, least);
        takes(run, call, most);
        for (int wrong : outOf(least, most)) {
            refuses(run, call.replace("#", String.valueOf(wrong)), kind);
        }
    }

    /**
     * A call with # for the value and for the length of a block takes each single bit among the first
     * ones, as many as the length tells, and refuses each of the others.
     */
    void firstBits(Run run, String call, long want) {
        for (int length = 0; length <= 8; length++) {
            for (int bit = 0; bit < 8; bit++) {
                String written = call.replaceFirst("#", "" + (1 << bit)).replaceFirst("#", "" + length);
                if (bit >= 8 - length) {
                    is(run, written, want);
                } else {
                    refuses(run, written, Due.ARGUMENT);
                }
            }
        }
    }

    private void takes(Run run, String call, int number) {
        String written = call.replace("#", String.valueOf(number));
        String answer = run.played().answer(written);
        due.same(name(run, written) + " answered " + answer, false, answer.startsWith("throws."));
    }

    /** Wrap-arounds of an int, of its sign, of a short, of a byte, and of a count of shifts. */
    private static Set<Integer> outOf(int least, int most) {
        Set<Integer> found = new LinkedHashSet<>();
        int[] steps = {Integer.MIN_VALUE, 1 << 16, 1 << 8, 1 << 5, -(1 << 16), -(1 << 8), -(1 << 5)};
        found.add(least - 1);
        found.add(most + 1);
        found.add(Integer.MIN_VALUE);
        found.add(Integer.MAX_VALUE);
        for (int step : steps) {
            found.add(least + step);
            found.add(most + step);
        }
        found.removeIf(number -> least <= number && number <= most);
        return found;
    }

    /** Traces are long: the first line that differs tells enough. */
    private void same(String what, String want, String got) {
        String[] wanted = want.split("\n");
        String[] lines = got.split("\n");
        int at = 0;
        while (at < wanted.length && at < lines.length && wanted[at].equals(lines[at])) {
            at++;
        }
        due.same(what, at < wanted.length ? wanted[at] : "the end", at < lines.length ? lines[at] : "the end");
    }

    private String traceOf(Run run) {
        return traces.computeIfAbsent(run.written(), written -> Trace.of(run));
    }

    /** Each sentence of a section is named by some test, or named here because it has no bound. */
    void noneLeftOut(String section, String... withoutBound) {
        section(section);
        for (String sentence : withoutBound) {
            says(sentence);
        }
        for (String sentence : document.unnamed(section)) {
            due.same("a test names this sentence of " + section + ": " + sentence, true, false);
        }
    }
}
