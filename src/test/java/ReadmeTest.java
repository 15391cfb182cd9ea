import java.io.IOException;
import java.lang.reflect.Method;
import java.nio.charset.StandardCharsets;
import java.nio.file.Files;
import java.nio.file.Path;
import java.util.List;
import java.util.Set;
import java.util.TreeSet;
import java.util.regex.Matcher;
import java.util.regex.Pattern;

/** README.md's example: each call of it answers what stands behind it, and it shows each call of the face. */
public final class ReadmeTest {
    private static final Expect E = new Expect();
    private static final Pattern LINE = Pattern.compile("x\\.(\\w+\\([^)]*\\));\\s+// = (\\S+).*");

    public static void main(String[] args) throws IOException {
        Path readme = Path.of(args.length > 0 ? args[0] : ".", "README.md");
        play(Files.readAllLines(readme, StandardCharsets.UTF_8));
        E.end();
    }

    private static void play(List<String> lines) {
        ServiceApiary x = new ServiceApiary();
        Set<String> shown = new TreeSet<>();
        for (String line : lines) {
            Matcher m = LINE.matcher(line);
            E.due("a call with an answer: " + line, m.matches(), line.startsWith("x."));
            if (m.matches()) {
                for (Run.Step s : Run.steps(m.group(1))) {
                    E.dueText(s.text(), Run.outcome(x, s.name(), s.numbers()), m.group(2));
                    shown.add(s.name());
                }
            }
        }
        E.dueText("the calls that are shown", shown.toString(), face().toString());
    }

    private static Set<String> face() {
        Set<String> names = new TreeSet<>();
        for (Method m : ServiceApiary.class.getMethods()) {
            if (m.getDeclaringClass() == ServiceApiary.class) {
                names.add(m.getName());
            }
        }
        return names;
    }
}
