import java.lang.reflect.Constructor;
import java.lang.reflect.Field;
import java.lang.reflect.Method;
import java.lang.reflect.Modifier;
import java.util.Arrays;
import java.util.Set;
import java.util.TreeSet;

/** The public face is the document's and no more, and no private method bears a public one's name. */
public final class FaceTest {
    private static final Expect E = new Expect();

    private static final String STATE = "IllegalStateException";
    private static final String ARGUMENT = "IllegalArgumentException";
    private static final String BOUNDS = "IndexOutOfBoundsException";

    private static final String[] FACE = {
        "int open() " + STATE,
        "int publish(int,int,int) " + BOUNDS + " " + ARGUMENT + " " + STATE,
        "int ofVersion(int,int,int) " + BOUNDS + " " + ARGUMENT,
        "boolean isCompatible(int,int,int) " + BOUNDS,
        "int client(int,int,int,int) " + BOUNDS + " " + ARGUMENT + " " + STATE,
        "int again(int,int) " + BOUNDS + " " + STATE,
        "int adapter(int,int,int,int,int) " + BOUNDS + " " + ARGUMENT + " " + STATE,
        "int ofClient(int,int) " + BOUNDS + " " + ARGUMENT,
        "int routed(int,int) " + BOUNDS,
        "int call(int,int) " + BOUNDS + " " + ARGUMENT,
        "int pass(int) " + ARGUMENT,
        "int lastCall(int,int) " + BOUNDS,
        "int retire(int,int,int) " + BOUNDS + " " + ARGUMENT + " " + STATE,
        "boolean answer(int,int,int) " + BOUNDS + " " + STATE,
        "int recall(int,int) " + BOUNDS + " " + STATE,
        "int asked(int,int,int) " + BOUNDS,
        "int many(int) " + ARGUMENT,
        "double servedShare() ",
        "int wouldCome(int,int) " + BOUNDS + " " + ARGUMENT,
        "int goneIn(int,int) " + BOUNDS,
        "int wouldBreak(int,int,int) " + BOUNDS + " " + ARGUMENT,
        "int target(int) " + BOUNDS,
        "int goneBy(int,int,int) " + BOUNDS + " " + ARGUMENT + " " + STATE,
        "long digest() ",
    };

    public static void main(String[] args) {
        Class<?> face = ServiceApiary.class;
        E.due("public and final", face.getModifiers(), Modifier.PUBLIC | Modifier.FINAL);
        Set<String> found = new TreeSet<>();
        Set<String> publicNames = new TreeSet<>();
        for (Method m : face.getDeclaredMethods()) {
            if (!Modifier.isPrivate(m.getModifiers())) {
                found.add(told(m));
                publicNames.add(m.getName());
            }
        }
        E.dueText("the methods", found.toString(), new TreeSet<>(Arrays.asList(FACE)).toString());
        for (Method m : face.getDeclaredMethods()) {
            if (Modifier.isPrivate(m.getModifiers())) {
                E.due("a public name of the private " + m.getName(), publicNames.contains(m.getName()), false);
            }
        }
        for (Field f : face.getDeclaredFields()) {
            E.due("private " + f.getName(), Modifier.isPrivate(f.getModifiers()), true);
            if (Modifier.isStatic(f.getModifiers())) {
                E.due("final " + f.getName(), Modifier.isFinal(f.getModifiers()), true);
            }
        }
        Constructor<?>[] constructors = face.getDeclaredConstructors();
        E.due("constructors", constructors.length, 1);
        E.due("public constructor", constructors[0].getModifiers(), Modifier.PUBLIC);
        E.due("parameters of it", constructors[0].getParameterCount(), 0);
        E.end();
    }

    private static String told(Method m) {
        StringBuilder text = new StringBuilder();
        text.append(m.getReturnType()).append(' ').append(m.getName()).append('(');
        for (Class<?> p : m.getParameterTypes()) {
            text.append(text.charAt(text.length() - 1) == '(' ? "" : ",").append(p);
        }
        text.append(") ");
        for (Class<?> e : m.getExceptionTypes()) {
            text.append(text.charAt(text.length() - 1) == ' ' ? "" : " ").append(e.getSimpleName());
        }
        return text.toString();
    }
}
