import java.util.Arrays;
import java.util.Random;

/**
 * Small worlds in which versions are retired, put off, recalled and answered for all the time, with what would be
 * asked behind each step, the same ones each time, on the class and on PlainModel.
 */
public final class RetiringRunsTest {
    private static final Expect E = new Expect();
    private static final int MOST_CALLS = 512;
    private static final int VERSIONS = 4;

    private final ServiceApiary x = new ServiceApiary();
    private final PlainModel model = new PlainModel();
    private final Random random;
    private final int faces;
    private final int clients;
    private final StringBuilder told = new StringBuilder();
    private int calls;

    private RetiringRunsTest(int seed) {
        random = new Random(seed);
        faces = 1 + below(2);
        clients = 2 + below(6);
    }

    public static void main(String[] args) {
        int runs = Integer.getInteger("runs", 150);
        for (int seed = 0; seed < runs; seed++) {
            new RetiringRunsTest(seed).run();
        }
        E.end();
    }

    private int below(int bound) {
        return random.nextInt(bound);
    }

    private void same(String name, int... numbers) {
        calls++;
        told.append(name).append(Arrays.toString(numbers)).append("; ");
        String got = Run.outcome(x, name, numbers);
        String want = Run.outcome(model, name, numbers);
        E.dueText(got.equals(want) ? name : told.toString(), got, want);
    }

    private void run() {
        for (int face = 0; face < faces; face++) {
            same("open");
            for (int v = 0; v < VERSIONS; v++) {
                int has = 7 | below(16);
                same("publish", face, has, below(3) == 0 ? has & below(8) : 0);
            }
        }
        for (int k = 0; k < clients; k++) {
            same("client", below(5), below(faces), below(2), below(8));
        }
        while (calls < MOST_CALLS - 10) {
            step();
            look();
        }
        same("digest");
    }

    private void step() {
        int face = below(faces);
        int v = below(VERSIONS);
        switch (below(12)) {
            case 0: same("adapter", face, v, below(VERSIONS), sometimesSome(), sometimesSome()); break;
            case 1: same("retire", face, v, 1 + below(below(3) == 0 ? 9 : 2)); break;
            case 2: same("recall", face, v); break;
            case 3: same("answer", below(5), face, v); break;
            case 4: same("pass", 1 + below(below(3) == 0 ? 100 : 12)); break;
            case 5: same("pass", below(2) == 0 ? 24 : 1); break;
            case 6: same("again", below(clients), v); break;
            default: same("call", below(clients), 1 + below(10)); break;
        }
    }

    private int sometimesSome() {
        return below(3) == 0 ? below(16) : 0;
    }

    private void look() {
        int face = below(faces);
        int v = below(VERSIONS);
        int client = below(clients);
        same("wouldCome", client, below(4) == 0 ? 0 : below(101));
        same("goneIn", face, v);
        same("goneBy", face, v, 1 + below(9));
        switch (below(5)) {
            case 0: same("ofVersion", face, v, below(11)); break;
            case 1: same("ofClient", client, below(9)); break;
            case 2: same("asked", below(5), face, v); break;
            case 3: same("target", client); break;
            default: same("digest"); break;
        }
    }
}
