import java.util.Arrays;

/**
 * All INTERFACES, VERSIONS, CLIENTS and ADAPTERS that there can be, and all 512 calls that an object is used for,
 * against PlainModel.
 */
public final class FullRegistryTest {
    private static final Expect E = new Expect();
    private static final int MOST_CALLS = 512;

    private final ServiceApiary x = new ServiceApiary();
    private final PlainModel model = new PlainModel();
    private final int seed;
    private int calls;

    public static void main(String[] args) {
        for (int seed = 0; seed < 6; seed++) {
            new FullRegistryTest(seed).run();
        }
        E.end();
    }

    private FullRegistryTest(int seed) {
        this.seed = seed;
    }

    private void same(String name, int... numbers) {
        if (calls < MOST_CALLS) {
            calls++;
            String call = "seed " + seed + ", call " + calls + ": " + name + Arrays.toString(numbers);
            E.dueText(call, Run.outcome(x, name, numbers), Run.outcome(model, name, numbers));
        }
    }

    private void fill() {
        for (int face = 0; face < 4; face++) {
            same("open");
            for (int version = 0; version < 6; version++) {
                same("publish", face, 255 - (1 << version) * (face % 2), seed % 2 == 0 ? 0 : (1 << version + face % 2) & 7);
            }
        }
        for (int client = 0; client < 10; client++) {
            int face = seed < 3 ? 0 : client % 4;
            same("client", client % 5, face, client % 3, 7);
            same("client", client % 5, face, client % 3, 7 & ~(1 << client % 3));
        }
        for (int k = 0; k < 10; k++) {
            same("adapter", seed < 3 ? 0 : k % 4, k % 6, (k + 1 + seed % 5) % 6, 1 << k % 8, k % 3 << k % 4);
        }
        int[] due = {4, 24, 24, 0, 0, 10, 10};
        for (int what = 0; what < due.length; what++) {
            same("many", what);
            E.due("seed " + seed + ": many(" + what + ") of all", model.many(what), due[what]);
        }
        same("open");
        same("publish", 3, 1, 0);
    }

    private void run() {
        fill();
        for (int k = 0; calls < MOST_CALLS - 1; k++) {
            round(k);
        }
        same("digest");
        E.due("calls", calls, MOST_CALLS);
        System.out.println("seed " + seed + ": NOW " + model.many(10) + ", CALLS " + model.many(7) + ", not SERVED " + model.many(8)
            + ", by a ROUTE " + model.many(9) + ", GONE " + model.many(4));
    }

    private void round(int k) {
        int face = seed < 3 ? 0 : k % 4;
        same("call", k % 10, 1 + (k + seed) % 20);
        same("call", (k + 3) % 10, 20);
        same(k % 3 == seed % 3 ? "retire" : "goneBy", face, k * 5 % 6, 1 + k % 9);
        same("call", (k + 6) % 10, 20);
        same("pass", k % 7 == 0 ? 100 : k % 3 == 0 ? 24 : 1 + k % 5);
        same("goneIn", face, (k + seed) % 6);
        same("wouldCome", k % 10, k * 13 % 101);
        same(k % 5 == 0 ? "recall" : "goneIn", face, k % 6);
        same("answer", k % 5, face, (k + 1) % 6);
        same("goneBy", face, k % 6, 1 + k % 9);
        same(k % 6 == 5 ? "again" : "lastCall", (k * 7 + seed) % 10, k % 6);
        same("asked", k % 5, face, k * 5 % 6);
        same("ofVersion", face, k * 5 % 6, k % 11);
        same("ofClient", k % 10, k % 9);
    }
}
