import java.util.List;

/**
 * One sentence of the document, and runs of calls on new objects that would go otherwise if it was broken.
 * A refused call is due to leave the digest as it was.
 */
final class Sentence {
    private static final int MOST_CALLS = 512;

    private Sentence() {
    }

    static void holds(Expect e, String sentence, String... runs) {
        for (String run : runs) {
            play(e, sentence, Run.steps(run));
        }
    }

    private static void play(Expect e, String sentence, List<Run.Step> steps) {
        ServiceApiary x = new ServiceApiary();
        StringBuilder told = new StringBuilder(sentence).append(": ");
        int calls = 0;
        for (Run.Step s : steps) {
            told.append(s.text()).append("; ");
            long before = s.isRefused() ? x.digest() : 0;
            String got = Run.outcome(x, s.name(), s.numbers());
            if (s.due() != null) {
                e.dueText(told.toString(), got, s.due());
            } else if (Run.isRefusal(got) || got.startsWith("throws")) {
                e.dueText(told.toString(), got, "an answer");
            }
            if (s.isRefused()) {
                e.due(told + "digest()", x.digest(), before);
            }
            calls += s.isRefused() ? 3 : 1;
        }
        if (calls > MOST_CALLS) {
            throw new IllegalArgumentException(calls + " calls are too many: " + sentence);
        }
    }
}
