import java.math.BigInteger;

/**
 * Promise 25: the checksum, told in whole numbers without a bound and wrapped around as a 64-bit integer only at
 * the end, from the answers that the document lists.
 */
public final class BoundaryDigestTest {
    private static final Expect E = new Expect();
    private static final BigInteger FACTOR = BigInteger.valueOf(31);
    /** Far below 512, as the object is asked for its digest, too. */
    private static final int MOST_CALLS = 450;

    private static final String SMALL = "open(); publish(0, 255, 0); publish(0, 255, 0); client(0, 0, 0, 1); ";

    private final String run;
    private final int runLength;
    private ServiceApiary x;
    private int calls;
    private BigInteger d = BigInteger.valueOf(58106);

    public static void main(String[] args) {
        is("nothing", "");
        is("an INTERFACE without VERSIONS", "open(); ");
        is("a VERSION without CLIENTS", "open(); publish(0, 0, 0); ");
        is("the last INTERFACE alone has a VERSION", "4 * open(); publish(3, 255, 255); ");
        is("a CLIENT without a ROUTE: each NONE counts -1", SMALL);
        is("a ROUTE of one", SMALL + "adapter(0, 0, 1, 2, 1); ");
        is("a ROUTE of two", SMALL + "retire(0, 1, 9); adapter(0, 0, 1, 0, 0); adapter(0, 1, 0, 4, 0); ");
        is("a ROUTE of three", "open(); publish(0, 1, 0); publish(0, 6, 6); client(4, 0, 0, 1); 3 * adapter(0, 1, 0, 4, 2); "
            + "adapter(0, 0, 1, 2, 1); ");
        is("each CLIENT has its own ROUTE, none ahead of and behind one of three",
            "open(); open(); publish(0, 1, 0); publish(0, 6, 6); publish(1, 1, 0); client(1, 1, 0, 1); client(4, 0, 0, 1); "
                + "client(2, 1, 0, 0); adapter(0, 0, 1, 2, 1); adapter(0, 1, 0, 4, 2); ");
        is("CALLS that are not SERVED, OWNERS that are ASKED", SMALL + "client(3, 0, 0, 0); retire(0, 0, 2); call(0, 20); call(1, 8); ");
        is("an OWNER that ANSWERED, one that is silent", SMALL + "client(3, 0, 0, 0); call(1, 1); retire(0, 0, 9); pass(72); call(0, 1); "
            + "answer(0, 0, 0); ");
        is("a CALL in 30 HOURS: an HOUR ahead of a brownout, in it, at the END, behind it",
            SMALL + "retire(0, 0, 3); pass(17); ", SMALL + "retire(0, 0, 3); pass(18); ", SMALL + "retire(0, 0, 3); pass(41); ",
            SMALL + "retire(0, 0, 3); pass(42); ", SMALL + "retire(0, 0, 3); pass(43); ");
        is("PUT OFF", SMALL + "retire(0, 0, 1); pass(23); call(0, 20); pass(1); ");
        is("GONE, without a ROUTE and with one", SMALL + "retire(0, 0, 1); pass(24); call(0, 2); ",
            SMALL + "adapter(0, 0, 1, 0, 0); retire(0, 0, 1); pass(24); call(0, 2); ");
        is("without an OPEN VERSION", SMALL + "retire(0, 0, 1); retire(0, 1, 9); pass(24); ");
        is("RECALLED", SMALL + "call(0, 3); retire(0, 0, 1); answer(0, 0, 0); recall(0, 0); ");
        is("thousands of HOURS", SMALL + "call(0, 1); 90 * pass(100); ");
        String full = full();
        is("all INTERFACES, VERSIONS, CLIENTS and ADAPTERS", full, full + "call(0, 20); call(5, 20); retire(0, 0, 9); retire(3, 5, 1); "
            + "call(9, 20); pass(24); call(9, 5); call(0, 3); ");
        seriesOfWraps();
        E.end();
    }

    private static String full() {
        return "4 * open(); 6 * publish(0, 255, 0); 6 * publish(1, 7, 1); 6 * publish(2, 1, 0); 6 * publish(3, 255, 255); "
            + "4 * client(0, 0, 0, 3); 3 * client(4, 0, 5, 255); client(1, 1, 0, 7); 2 * client(2, 3, 5, 255); "
            + "4 * adapter(0, 0, 5, 1, 0); 3 * adapter(0, 5, 0, 0, 255); 3 * adapter(3, 5, 0, 0, 0); ";
    }

    /** Runs the same hours on and on: the checksum takes all signs. */
    private static void seriesOfWraps() {
        int below = 0;
        for (int hours = 1; hours <= 60; hours++) {
            String run = SMALL + "call(0, 5); retire(0, 0, 2); pass(" + hours + "); ";
            is("an HOUR more", run);
            below += Run.object(run).digest() < 0 ? 1 : 0;
        }
        E.due("some checksums wrap below 0, and some do not", below > 0 && below < 60, true);
    }

    private static void is(String sentence, String... runs) {
        for (String run : runs) {
            BoundaryDigestTest t = new BoundaryDigestTest(run);
            t.foldAll();
            E.due("25: " + sentence + ": " + run + "digest()", Run.object(run).digest(), t.d.longValue());
            E.due("25: " + sentence + ": it would not fit 64 bits", t.d.bitLength() > 63, true);
        }
    }

    private BoundaryDigestTest(String run) {
        this.run = run;
        this.runLength = Run.steps(run).size();
        renew();
    }

    private void renew() {
        x = Run.object(run);
        calls = runLength;
    }

    private ServiceApiary asked() {
        if (calls >= MOST_CALLS) {
            renew();
        }
        calls++;
        return x;
    }

    private void fold(int v) {
        d = d.multiply(FACTOR).add(BigInteger.valueOf(v));
    }

    private void foldAll() {
        for (int what = 0; what <= 10; what++) {
            fold(asked().many(what));
        }
        for (int face = 0; face < asked().many(0); face++) {
            for (int version = 0; version < versions(face); version++) {
                foldVersion(face, version);
            }
        }
        for (int client = 0; client < asked().many(5); client++) {
            foldClient(client);
        }
    }

    private int versions(int face) {
        int count = 0;
        while (!Run.outcome(asked(), "goneIn", face, count).equals("bounds")) {
            count++;
        }
        return count;
    }

    private void foldVersion(int face, int version) {
        for (int what = 0; what <= 10; what++) {
            fold(asked().ofVersion(face, version, what));
        }
        fold(asked().goneIn(face, version));
        for (int owner = 0; owner <= 4; owner++) {
            fold(asked().asked(owner, face, version));
        }
    }

    private void foldClient(int client) {
        for (int what = 0; what <= 8; what++) {
            fold(asked().ofClient(client, what));
        }
        for (int k = 0; k < asked().ofClient(client, 6); k++) {
            fold(asked().routed(client, k));
        }
        int versions = versions(asked().ofClient(client, 1));
        for (int version = 0; version < versions; version++) {
            fold(asked().lastCall(client, version));
        }
        fold(asked().wouldCome(client, 0));
        fold(asked().wouldCome(client, 30));
        fold(asked().target(client));
    }
}
