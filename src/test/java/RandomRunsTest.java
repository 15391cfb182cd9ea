import java.util.Random;
import java.util.function.LongSupplier;

/** Runs of up to 512 chosen calls, the same ones each time, on the class and on PlainModel. */
public final class RandomRunsTest {
    private static final Expect E = new Expect();
    private static final int[] SETS = {0, 1, 2, 3, 4, 5, 6, 7, 15, 240, 255, 128, -1, 256};

    private final Random random;
    private final ServiceApiary x = new ServiceApiary();
    private final PlainModel model = new PlainModel();
    private final int wildness;
    private final StringBuilder told = new StringBuilder();

    private RandomRunsTest(int seed, int wildness) {
        this.random = new Random(seed);
        this.wildness = wildness;
    }

    public static void main(String[] args) {
        int runs = Integer.getInteger("runs", 400);
        for (int seed = 0; seed < runs; seed++) {
            new RandomRunsTest(seed, seed % 4).run(seed % 8 == 0 ? 500 : 120);
        }
        E.end();
    }

    private int below(int bound) {
        return random.nextInt(bound);
    }

    /** A number below the bound; in wild runs now and then one beside it. */
    private int index(int bound) {
        if (wildness > 0 && below(40) < wildness) {
            return below(2) == 0 ? -1 : bound + below(3);
        }
        return below(bound);
    }

    private int faceNumber() {
        return index(Math.max(1, x.many(0)));
    }

    private int clientNumber() {
        return index(Math.max(1, x.many(5)));
    }

    private int set() {
        if (below(2) == 0) {
            return below(8);
        }
        return SETS[below(wildness > 1 ? SETS.length : SETS.length - 2)];
    }

    private int subset(int of) {
        return below(20) < wildness ? set() : of & below(256) & below(256);
    }

    private void run(int steps) {
        E.due("open()", x.open(), model.open());
        for (int k = 0; k < 3; k++) {
            E.due("publish", x.publish(0, 7 + 8 * k, k), model.publish(0, 7 + 8 * k, k));
        }
        for (int k = 0; k < steps; k++) {
            step();
            if (k % 40 == 39) {
                E.due(told + " digest()", x.digest(), model.digest());
            }
        }
        E.due(told + " digest()", x.digest(), model.digest());
        E.dueShare(told + " servedShare()", x.servedShare(), model.servedShare());
    }

    private static String outcome(LongSupplier doing) {
        try {
            return String.valueOf(doing.getAsLong());
        } catch (IndexOutOfBoundsException | IllegalArgumentException | IllegalStateException e) {
            return "throws." + e.getClass().getSimpleName();
        }
    }

    private void same(String call, LongSupplier first, LongSupplier second) {
        told.append(call).append("; ");
        String got = outcome(first);
        String want = outcome(second);
        if (!got.equals(want)) {
            E.dueText(told.toString(), got, want);
        }
        E.dueText(call, got, want);
        if (want.startsWith("throws.") && below(8) == 0) {
            E.due(call + " digest()", x.digest(), model.digest());
        }
    }

    private void step() {
        switch (below(12)) {
            case 0: build(); break;
            case 1: case 2: traffic(); break;
            case 3: hours(); break;
            case 4: case 5: retirements(); break;
            case 6: case 7: look(); break;
            case 8: regenerate(); break;
            default: traffic(); break;
        }
        if (below(3) == 0) {
            wouldBe();
        }
    }

    private void build() {
        int face = faceNumber();
        int v = index(3);
        int w = index(4);
        int a = set();
        int b = set();
        int owner = index(5);
        switch (below(8)) {
            case 0:
                if (below(4) == 0) {
                    same("open()", () -> x.open(), () -> model.open());
                }
                break;
            case 1: case 2: {
                int needs = subset(a);
                same("publish(" + face + ", " + a + ", " + needs + ")",
                    () -> x.publish(face, a, needs), () -> model.publish(face, a, needs));
                break;
            }
            case 3: case 4:
                same("adapter(" + face + ", " + v + ", " + w + ", " + a + ", " + b + ")",
                    () -> x.adapter(face, v, w, a, b), () -> model.adapter(face, v, w, a, b));
                break;
            default:
                same("client(" + owner + ", " + face + ", " + v + ", " + a + ")",
                    () -> x.client(owner, face, v, a), () -> model.client(owner, face, v, a));
                break;
        }
    }

    private void traffic() {
        int client = clientNumber();
        int times = below(4) == 0 ? index(21) : 1 + below(9);
        same("call(" + client + ", " + times + ")",
            () -> x.call(client, times), () -> model.call(client, times));
    }

    private void hours() {
        int hours = below(3) == 0 ? index(101) : below(2) == 0 ? 24 : 1 + below(12);
        same("pass(" + hours + ")", () -> x.pass(hours), () -> model.pass(hours));
    }

    private void regenerate() {
        int client = clientNumber();
        int v = index(4);
        same("again(" + client + ", " + v + ")", () -> x.again(client, v), () -> model.again(client, v));
    }

    private void retirements() {
        int face = faceNumber();
        int v = index(4);
        int owner = index(5);
        int days = below(3) == 0 ? index(10) : 1 + below(3);
        switch (below(7)) {
            case 0: case 1:
                same("retire(" + face + ", " + v + ", " + days + ")",
                    () -> x.retire(face, v, days), () -> model.retire(face, v, days));
                break;
            case 2: case 3: case 4:
                same("answer(" + owner + ", " + face + ", " + v + ")",
                    () -> x.answer(owner, face, v) ? 1 : 0, () -> model.answer(owner, face, v));
                break;
            default:
                same("recall(" + face + ", " + v + ")", () -> x.recall(face, v), () -> model.recall(face, v));
                break;
        }
    }

    private void look() {
        int face = faceNumber();
        int v = index(6);
        int w = index(6);
        int client = clientNumber();
        int what = index(11);
        int owner = index(5);
        switch (below(7)) {
            case 0:
                same("ofVersion(" + face + ", " + v + ", " + what + ")",
                    () -> x.ofVersion(face, v, what), () -> model.ofVersion(face, v, what));
                break;
            case 1:
                same("ofClient(" + client + ", " + what + ")",
                    () -> x.ofClient(client, what), () -> model.ofClient(client, what));
                break;
            case 2:
                same("routed(" + client + ", " + v + ")", () -> x.routed(client, v), () -> model.routed(client, v));
                break;
            case 3:
                same("isCompatible(" + face + ", " + v + ", " + w + ")",
                    () -> x.isCompatible(face, v, w) ? 1 : 0, () -> model.isCompatible(face, v, w));
                break;
            case 4:
                same("lastCall(" + client + ", " + v + ")",
                    () -> x.lastCall(client, v), () -> model.lastCall(client, v));
                break;
            case 5:
                same("asked(" + owner + ", " + face + ", " + v + ")",
                    () -> x.asked(owner, face, v), () -> model.asked(owner, face, v));
                break;
            default:
                same("many(" + what + ")", () -> x.many(what), () -> model.many(what));
                break;
        }
    }

    private void wouldBe() {
        int face = faceNumber();
        int v = index(4);
        int client = clientNumber();
        int hours = below(2) == 0 ? index(101) : 24 * below(5);
        int days = below(3) == 0 ? index(10) : 1 + below(3);
        int has = set();
        int needs = subset(has);
        switch (below(5)) {
            case 0:
                same("wouldCome(" + client + ", " + hours + ")",
                    () -> x.wouldCome(client, hours), () -> model.wouldCome(client, hours));
                break;
            case 1:
                same("goneIn(" + face + ", " + v + ")", () -> x.goneIn(face, v), () -> model.goneIn(face, v));
                break;
            case 2:
                same("wouldBreak(" + face + ", " + has + ", " + needs + ")",
                    () -> x.wouldBreak(face, has, needs), () -> model.wouldBreak(face, has, needs));
                break;
            case 3:
                same("target(" + client + ")", () -> x.target(client), () -> model.target(client));
                break;
            default:
                same("goneBy(" + face + ", " + v + ", " + days + ")",
                    () -> x.goneBy(face, v, days), () -> model.goneBy(face, v, days));
                break;
        }
    }
}
