import java.util.IdentityHashMap;
import java.util.LinkedHashMap;
import java.util.List;
import java.util.Map;
import java.util.NoSuchElementException;
import java.util.function.Consumer;
import java.util.function.Function;

/**
 * Checks that stand each under a sentence of the document: of(..) names the sentence, and all that is looked
 * at from there on counts for it. Each refused call counts for the sentence that it changes nothing, too.
 */
final class Edges {
    static final Class<IndexOutOfBoundsException> NONE = IndexOutOfBoundsException.class;
    static final Class<IllegalArgumentException> RANGE = IllegalArgumentException.class;
    static final Class<UnsupportedOperationException> CANNOT = UnsupportedOperationException.class;
    static final Class<IllegalStateException> FULL = IllegalStateException.class;
    static final Class<NoSuchElementException> MISSING = NoSuchElementException.class;

    /** A call with one number that is tried out. */
    interface Of {
        Object go(Shakerhall lab, int number);
    }

    private final Document document;
    private final Check check = new Check("EdgesTest");
    private final Map<String, Integer> looked = new LinkedHashMap<>();
    private final Map<Consumer<Shakerhall>, List<String>> untouched = new IdentityHashMap<>();
    private final String nothingChanges;
    private String current = "";

    Edges(Document document) {
        this.document = document;
        of("Exceptions", "A method that throws an exception changes nothing.");
        nothingChanges = current;
    }

    /** A part of the tests, of which a call that should have answered ends no other part. */
    void part(Consumer<Edges> tests) {
        try {
            tests.accept(this);
        } catch (RuntimeException thrown) {
            same("the last call behind what was looked at", "an answer", Check.told(thrown));
            thrown.printStackTrace(System.out);
        }
    }

    void of(int promise, String words) {
        of("Promise " + promise, words);
    }

    void of(String heading, String words) {
        String sentence = document.sentenceWith(heading, words);
        check.yes("the document says under " + heading + ": " + words, sentence != null);
        current = Document.named(heading, sentence == null ? words : sentence);
        looked.putIfAbsent(current, 0);
    }

    void same(String what, Object due, Object got) {
        looked.merge(current, 1, Integer::sum);
        check.same(current + ": " + what, due, got);
    }

    void yes(String what, boolean got) {
        same(what, true, got);
    }

    static Shakerhall made(Consumer<Shakerhall> setUp) {
        Shakerhall lab = new Shakerhall();
        setUp.accept(lab);
        return lab;
    }

    /** The call answers, whatever it be. */
    void allowed(String what, Consumer<Shakerhall> setUp, Function<Shakerhall, Object> call) {
        String outcome = Check.outcome(() -> call.apply(made(setUp)));
        same(what, "it answers", outcome.startsWith("throws") ? outcome : "it answers");
    }

    /** The call throws just that, and a laboratory behind it is as one is that was not asked. */
    void refused(String what, Class<? extends Throwable> due, Consumer<Shakerhall> setUp,
            Function<Shakerhall, Object> call) {
        same(what, "throws " + due.getName(), Check.outcome(() -> call.apply(made(setUp))));
        List<String> calm = untouched.computeIfAbsent(setUp, one -> Answers.of(() -> made(one)));
        List<String> tried = Answers.of(() -> {
            Shakerhall lab = made(setUp);
            Check.outcome(() -> call.apply(lab));
            return lab;
        });
        looked.merge(nothingChanges, 1, Integer::sum);
        check.same(nothingChanges + ": " + current + ": " + what, calm, tried);
    }

    /** The least and the greatest number are allowed, the next one on each side and those far away are not. */
    void range(Consumer<Shakerhall> setUp, int least, int most, Of call) {
        allowed("the least, " + least, setUp, lab -> call.go(lab, least));
        allowed("the greatest, " + most, setUp, lab -> call.go(lab, most));
        for (int beyond : beyond(least, most)) {
            refused("beyond: " + beyond, RANGE, setUp, lab -> call.go(lab, beyond));
        }
    }

    /** The first one and the last one of a row are there, whatever else is wrong, and none on either side. */
    void row(Consumer<Shakerhall> setUp, int count, Of call) {
        for (int there = 0; there < count; there += Math.max(1, count - 1)) {
            int number = there;
            String outcome = Check.outcome(() -> call.go(made(setUp), number));
            yes(there + " of " + count + " is there", !outcome.equals("throws " + NONE.getName()));
        }
        for (int beyond : beyond(0, count - 1)) {
            refused(beyond + " of " + count, NONE, setUp, lab -> call.go(lab, beyond));
        }
    }

    /** The sentence of a promise that there is no such structure: by no structure, one, and all six. */
    void noStructure(int promise, Of call) {
        of(promise, "Throws `IndexOutOfBoundsException` if there is no such structure");
        row(Labs.NEW, 0, call);
        row(Labs.TAKEN, 1, call);
        row(Labs.ALL, 6, call);
    }

    /** The sentence of a promise that there is no such run: by no run, one, and all six. */
    void noRun(int promise, Of call) {
        of(promise, "Throws `IndexOutOfBoundsException` if there is no such run");
        row(Labs.LIVELY, 0, call);
        row(Labs.ONE_RUN, 1, call);
        row(Labs.ALL, 6, call);
    }

    private static int[] beyond(int least, int most) {
        return new int[] {least - 1, most + 1, Integer.MIN_VALUE, Integer.MAX_VALUE};
    }

    /** Tells how often each sentence was looked at, and what the document says that no test has named. */
    void end() {
        for (Map.Entry<String, Integer> sentence : looked.entrySet()) {
            System.out.println(sentence.getValue() + " looked at: " + sentence.getKey());
            check.yes("something is looked at: " + sentence.getKey(), sentence.getValue() > 0);
        }
        for (String needed : document.needed()) {
            check.yes("a test names " + needed, looked.containsKey(needed));
        }
        check.end();
    }
}
