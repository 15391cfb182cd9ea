import java.util.ArrayList;
import java.util.List;
import java.util.regex.Matcher;
import java.util.regex.Pattern;

/**
 * A run of calls, told as a text: "open(); publish(0, 3, 1) = 0; 5 * call(0, 20); open() = state". What stands
 * behind = is due: a number, true or false, or bounds, argument or state for the exception (IndexOutOfBounds-,
 * IllegalArgument-, IllegalStateException); a call without it is due to throw nothing. MIN and MAX are the
 * least and the greatest int.
 */
final class Run {
    private static final Pattern CALL = Pattern.compile("(?:(\\d+) \\* )?(\\w+)\\(([^)]*)\\)(?: = (\\S+))?");

    record Step(String text, String name, int[] numbers, String due) {
        boolean isRefused() {
            return due != null && isRefusal(due);
        }
    }

    private Run() {
    }

    static boolean isRefusal(String answer) {
        return answer.equals("bounds") || answer.equals("argument") || answer.equals("state");
    }

    static List<Step> steps(String run) {
        List<Step> steps = new ArrayList<>();
        for (String part : run.split(";")) {
            String call = part.trim();
            if (call.isEmpty()) {
                continue;
            }
            Matcher m = CALL.matcher(call);
            if (!m.matches()) {
                throw new IllegalArgumentException("not a call: " + call);
            }
            int times = m.group(1) == null ? 1 : Integer.parseInt(m.group(1));
            for (int k = 0; k < times; k++) {
                steps.add(new Step(call, m.group(2), numbers(m.group(3)), m.group(4)));
            }
        }
        return steps;
    }

    private static int[] numbers(String list) {
        String[] parts = list.isBlank() ? new String[0] : list.split(",");
        int[] numbers = new int[parts.length];
        for (int k = 0; k < parts.length; k++) {
            String p = parts[k].trim();
            numbers[k] = p.equals("MIN") ? Integer.MIN_VALUE : p.equals("MAX") ? Integer.MAX_VALUE
                : Integer.parseInt(p);
        }
        return numbers;
    }

    /** What a call answers, or bounds, argument or state; another exception is told by its own name. */
    static String outcome(ServiceApiary x, String name, int... numbers) {
        try {
            return Calls.answer(x, name, numbers);
        } catch (RuntimeException thrown) {
            return told(thrown);
        }
    }

    static String outcome(PlainModel m, String name, int... numbers) {
        try {
            return Calls.answer(m, name, numbers);
        } catch (RuntimeException thrown) {
            return told(thrown);
        }
    }

    private static String told(RuntimeException thrown) {
        Class<?> kind = thrown.getClass();
        return kind == IndexOutOfBoundsException.class ? "bounds"
            : kind == IllegalArgumentException.class ? "argument"
            : kind == IllegalStateException.class ? "state" : "throws " + kind.getName();
    }

    /** A new object behind a run. */
    static ServiceApiary object(String run) {
        ServiceApiary x = new ServiceApiary();
        for (Step s : steps(run)) {
            outcome(x, s.name(), s.numbers());
        }
        return x;
    }

    static PlainModel model(String run) {
        PlainModel m = new PlainModel();
        for (Step s : steps(run)) {
            outcome(m, s.name(), s.numbers());
        }
        return m;
    }
}
