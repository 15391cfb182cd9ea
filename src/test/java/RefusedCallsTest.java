import java.util.ArrayList;
import java.util.Arrays;
import java.util.List;

/**
 * "A method that throws an exception changes nothing. If several exceptions apply, the one that is named first
 * is thrown": every call with arguments at, around and far beyond each bound, on an empty, a small and a full
 * registry, against PlainModel.
 */
public final class RefusedCallsTest {
    private static final Expect E = new Expect();
    private static final int MIN = Integer.MIN_VALUE;
    private static final int MAX = Integer.MAX_VALUE;

    /** Two interfaces, one with all 6 versions; open, retiring and gone ones; owners that are asked, warned, or neither. */
    private static final String SOME = "open(); open(); 2 * publish(0, 255, 0); publish(0, 7, 3); publish(0, 15, 1); "
        + "6 * publish(1, 3, 1); client(0, 0, 0, 5); client(4, 0, 1, 0); client(2, 0, 2, 7); client(1, 1, 5, 1); "
        + "adapter(0, 0, 1, 1, 2); adapter(0, 1, 0, 0, 0); adapter(1, 5, 0, 2, 0); retire(0, 1, 1); retire(1, 5, 2); "
        + "pass(30); call(0, 4); call(2, 3); retire(0, 0, 3); retire(0, 2, 9); answer(2, 0, 2); call(1, 2); call(3, 5); ";

    private static final String FULL = "4 * open(); 6 * publish(0, 255, 0); 6 * publish(1, 7, 1); 6 * publish(2, 1, 0); "
        + "6 * publish(3, 255, 255); 4 * client(0, 0, 0, 3); 3 * client(4, 0, 5, 255); client(1, 1, 0, 7); "
        + "2 * client(2, 3, 5, 255); 4 * adapter(0, 0, 5, 1, 0); 3 * adapter(0, 5, 0, 0, 255); 3 * adapter(3, 5, 0, 0, 0); "
        + "call(0, 20); call(9, 3); retire(0, 0, 1); retire(3, 5, 9); retire(0, 1, 1); pass(24); call(0, 2); call(4, 20); ";

    private static final String[] REGISTRIES = {"", "open(); ", "open(); publish(0, 0, 0); client(0, 0, 0, 0); ", SOME, FULL,
        SOME + "pass(100); call(0, 1); call(2, 1); ", FULL + "recall(0, 0); retire(0, 5, 2); call(4, 9); "};

    private static final int[] FACE = {MIN, -1, 0, 1, 3, 4, MAX};
    private static final int[] VERSION = {MIN, -1, 0, 2, 5, 6, MAX};
    private static final int[] FEW_VERSIONS = {-1, 0, 1, 5, 6};
    private static final int[] CLIENT = {MIN, -1, 0, 1, 3, 9, 10, MAX};
    private static final int[] OWNER = {MIN, -1, 0, 4, 5, MAX};
    private static final int[] SET = {MIN, -1, 0, 1, 7, 255, 256, MAX};
    private static final int[] FEW_SETS = {-1, 0, 255, 256};

    private static final List<String> CHANGERS = List.of("open", "publish", "client", "again", "adapter", "call", "pass",
        "retire", "answer", "recall");

    private static int refused;

    private final String registry;
    private ServiceApiary x;
    private PlainModel model;
    private long before;
    private int calls;

    public static void main(String[] args) {
        for (String registry : REGISTRIES) {
            new RefusedCallsTest(registry).all();
        }
        E.due("refused calls were looked at", refused > 10_000, true);
        refusedCallsBetweenOthers();
        E.end();
    }

    private RefusedCallsTest(String registry) {
        this.registry = registry;
        renew();
    }

    private void renew() {
        x = Run.object(registry);
        model = Run.model(registry);
        before = x.digest();
        calls = Run.steps(registry).size() + 1;
    }

    private void all() {
        each("open");
        each("publish", FACE, SET, SET);
        each("ofVersion", FACE, VERSION, new int[] {MIN, -1, 0, 5, 6, 10, 11, MAX});
        each("isCompatible", FACE, VERSION, VERSION);
        each("client", OWNER, FACE, VERSION, SET);
        each("again", CLIENT, VERSION);
        each("adapter", FACE, FEW_VERSIONS, FEW_VERSIONS, FEW_SETS, FEW_SETS);
        each("ofClient", CLIENT, new int[] {MIN, -1, 0, 6, 7, 8, 9, MAX});
        each("routed", CLIENT, new int[] {MIN, -1, 0, 1, 2, 3, MAX});
        each("call", CLIENT, new int[] {MIN, -1, 0, 1, 20, 21, MAX});
        each("pass", new int[] {MIN, -1, 0, 1, 100, 101, MAX});
        each("lastCall", CLIENT, VERSION);
        each("retire", FACE, VERSION, new int[] {MIN, -1, 0, 1, 9, 10, MAX});
        each("answer", OWNER, FACE, VERSION);
        each("recall", FACE, VERSION);
        each("asked", OWNER, FACE, VERSION);
        each("many", new int[] {MIN, -1, 0, 1, 2, 3, 4, 5, 6, 7, 8, 9, 10, 11, MAX});
        each("servedShare");
        each("wouldCome", CLIENT, new int[] {MIN, -1, 0, 1, 100, 101, MAX});
        each("goneIn", FACE, VERSION);
        each("wouldBreak", FACE, SET, SET);
        each("target", CLIENT);
        each("goneBy", FACE, VERSION, new int[] {MIN, -1, 0, 1, 9, 10, MAX});
        each("digest");
    }

    /** Every choice of one value for each argument. */
    private void each(String name, int[]... values) {
        List<int[]> choices = new ArrayList<>();
        choices.add(new int[0]);
        for (int[] ofOne : values) {
            List<int[]> longer = new ArrayList<>();
            for (int[] choice : choices) {
                for (int value : ofOne) {
                    int[] next = Arrays.copyOf(choice, choice.length + 1);
                    next[choice.length] = value;
                    longer.add(next);
                }
            }
            choices = longer;
        }
        for (int[] choice : choices) {
            look(name, choice);
        }
    }

    private void look(String name, int[] numbers) {
        String call = registry + name + Arrays.toString(numbers);
        String want = Run.outcome(model, name, numbers);
        E.dueText(call, Run.outcome(x, name, numbers), want);
        calls++;
        boolean changed = !Run.isRefusal(want) && CHANGERS.contains(name);
        if (Run.isRefusal(want)) {
            refused++;
            E.due(call + " digest()", x.digest(), before);
            calls++;
        }
        if (changed || calls > 500) {
            renew();
        }
    }

    /** A run with refused calls behind each of its calls answers and ends as the same run without them. */
    private static void refusedCallsBetweenOthers() {
        String[] noise = {"publish(0, 256, 0)", "publish(4, 1, 0)", "ofVersion(0, 0, 11)", "isCompatible(0, 0, 9)", "client(5, 0, 0, 1)",
            "client(0, 0, 9, 1)", "again(10, 0)", "again(0, 9)", "adapter(0, 0, 0, 1, 1)", "adapter(9, 0, 1, 1, 1)", "ofClient(0, 9)",
            "routed(0, 3)", "routed(3, -1)", "call(0, 21)", "call(2, 0)", "call(10, 1)", "pass(0)", "pass(101)", "lastCall(0, 7)",
            "retire(0, 0, 10)", "retire(1, 5, 0)", "answer(5, 0, 0)", "answer(3, 0, 0)", "recall(0, 3)", "asked(0, 0, 9)", "many(11)",
            "wouldCome(0, 101)", "goneIn(5, 0)", "wouldBreak(0, 1, 2)", "target(10)", "goneBy(0, 0, 0)", "goneBy(0, 9, 1)"};
        String[] runs = {SOME + "pass(42); call(0, 5); pass(6); call(2, 9); again(0, 3); pass(100); call(1, 1); ",
            FULL + "pass(3); call(4, 9); pass(21); again(1, 2); call(0, 20); answer(0, 0, 0); pass(30); "};
        for (String run : runs) {
            ServiceApiary plain = new ServiceApiary();
            ServiceApiary noisy = new ServiceApiary();
            int place = 0;
            for (Run.Step s : Run.steps(run)) {
                String want = Run.outcome(plain, s.name(), s.numbers());
                E.dueText(run + s.text() + " between refused calls", Run.outcome(noisy, s.name(), s.numbers()), want);
                for (int k = 0; k < 4; k++) {
                    Run.Step n = Run.steps(noise[place++ % noise.length]).get(0);
                    String got = Run.outcome(noisy, n.name(), n.numbers());
                    E.due(run + n.text() + " is refused: " + got, Run.isRefusal(got), true);
                }
            }
            E.due(run + "digest() with refused calls between", noisy.digest(), plain.digest());
        }
    }
}
