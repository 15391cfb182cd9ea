/** The boundary cases of the Terms, sentence by sentence. */
public final class BoundaryTermsTest {
    private static final Expect E = new Expect();

    /** Two versions that have all and need nothing, and a client of owner 0 of version 0. */
    private static final String SMALL = "open(); publish(0, 255, 0); publish(0, 255, 0); client(0, 0, 0, 1); ";

    public static void main(String[] args) {
        numbersAndSets();
        interfacesAndVersions();
        fits();
        compatible();
        clients();
        generatedAgain();
        adapters();
        routes();
        bestRoutes();
        whatComesOfACall();
        callers();
        retired();
        brownedOut();
        quota();
        asked();
        warned();
        hinders();
        anHourBegins();
        putOff();
        recalled();
        E.end();
    }

    private static void is(String sentence, String... runs) {
        Sentence.holds(E, sentence, runs);
    }

    private static void numbersAndSets() {
        is("NOW, in HOURS, is 0 at first",
            "many(10) = 0", SMALL + "many(10) = 0; lastCall(0, 0) = -1; call(0, 1); lastCall(0, 0) = 0");
        is("NONE is -1", SMALL + "ofVersion(0, 0, 3) = -1; goneIn(0, 0) = -1; ofClient(0, 6) = -1");
        is("/ is cut: a day is full with its last hour",
            SMALL + "retire(0, 0, 9); pass(23); call(0, 20) = 8; pass(1); pass(2); call(0, 20) = 7");
        is("% is what is left: the hour is 0 again at 24",
            SMALL + "retire(0, 0, 9); pass(23); wouldCome(0, 0) = 0; pass(1); wouldCome(0, 0) = 2");
        is("A set is the sum of 2^k: the empty one, the least field, the greatest field, all of them",
            "open(); publish(0, 0, 0) = 0; publish(0, 1, 1) = 0; publish(0, 128, 128) = 0; publish(0, 255, 255) = 0; "
                + "publish(0, 255, 0) = 4; client(0, 0, 0, 0) = 0; client(0, 0, 1, 1) = 1; client(0, 0, 2, 128) = 2; "
                + "client(0, 0, 3, 255) = 3; ofClient(0, 3) = 0; ofClient(2, 3) = 128; ofClient(3, 3) = 255");
    }

    private static void interfacesAndVersions() {
        is("INTERFACES: at most 4, numbered from 0",
            "open() = 0; open() = 1; open() = 2; open() = 3; open() = state; many(0) = 4");
        is("each with at most 6 VERSIONS, numbered from 0: the other INTERFACES have theirs",
            "open(); open(); 6 * publish(0, 1, 1); publish(0, 1, 1) = state; 6 * publish(1, 1, 1); "
                + "publish(1, 1, 1) = state; many(1) = 12; ofVersion(0, 0, 0) = 1; ofVersion(0, 5, 0) = 1; "
                + "ofVersion(0, 6, 0) = bounds");
        is("It is OPEN as it is published",
            "open(); publish(0, 1, 1); ofVersion(0, 0, 2) = 0; retire(0, 0, 1); ofVersion(0, 0, 2) = 1; publish(0, 1, 1); "
                + "ofVersion(0, 1, 2) = 0; pass(24) = 1; ofVersion(0, 0, 2) = 2; publish(0, 1, 1); ofVersion(0, 2, 2) = 0");
    }

    private static void fits() {
        is("FITS: all that it NEEDS are in it",
            "open(); publish(0, 7, 3); client(0, 0, 0, 3) = 0; client(0, 0, 0, 1) = argument; "
                + "client(0, 0, 0, 2) = argument; client(0, 0, 0, 0) = argument; client(0, 0, 0, 7) = 1");
        is("FITS: none that it does not HAVE",
            "open(); publish(0, 7, 1); client(0, 0, 0, 7) = 0; client(0, 0, 0, 15) = argument; "
                + "client(0, 0, 0, 129) = argument; client(0, 0, 0, 8) = argument");
        is("FITS: the empty set that which NEEDS nothing, even if it HAS nothing",
            "open(); publish(0, 0, 0); client(0, 0, 0, 0) = 0; client(0, 0, 0, 1) = argument; client(0, 0, 0, 255) = argument");
        is("FITS: all of them that which NEEDS all",
            "open(); publish(0, 255, 255); client(0, 0, 0, 255) = 0; client(0, 0, 0, 254) = argument; "
                + "client(0, 0, 0, 127) = argument; client(0, 0, 0, 0) = argument");
    }

    private static void compatible() {
        is("COMPATIBLE, if it HAS all that this HAS: the same, one more, one less, another one instead",
            "open(); publish(0, 6, 0); publish(0, 6, 0) = 1; publish(0, 7, 0) = 2; publish(0, 2, 0) = 0; "
                + "publish(0, 10, 0) = 1; publish(0, 255, 0) = 5");
        is("COMPATIBLE, if it NEEDS nothing that this does not NEED: the same, one less, one more, another one instead",
            "open(); publish(0, 255, 6); publish(0, 255, 6) = 1; publish(0, 255, 2) = 2; publish(0, 255, 7) = 0; "
                + "publish(0, 255, 10) = 0; publish(0, 255, 0) = 5");
        is("COMPATIBLE: what HAS nothing with what HAS nothing",
            "open(); publish(0, 0, 0); publish(0, 0, 0) = 1; isCompatible(0, 0, 1) = true; isCompatible(0, 1, 0) = true");
    }

    private static void clients() {
        is("CLIENTS: at most 10, numbered from 0, of all INTERFACES together",
            "open(); open(); publish(0, 1, 0); publish(1, 1, 0); 5 * client(0, 0, 0, 0); client(4, 1, 0, 1) = 5; "
                + "3 * client(0, 1, 0, 0); client(0, 0, 0, 0) = 9; client(0, 0, 0, 0) = state; client(0, 1, 0, 0) = state; "
                + "many(5) = 10");
        is("of an OWNER, 0 to 4",
            "open(); publish(0, 1, 0); client(0, 0, 0, 0) = 0; client(4, 0, 0, 0) = 1; client(5, 0, 0, 0) = argument; "
                + "client(-1, 0, 0, 0) = argument; ofClient(0, 0) = 0; ofClient(1, 0) = 4");
        is("with a set of FIELDS that it USES: none of them, all of them",
            "open(); publish(0, 255, 0); client(0, 0, 0, 0) = 0; client(0, 0, 0, 255) = 1; ofClient(0, 3) = 0; "
                + "ofClient(1, 3) = 255");
    }

    private static void generatedAgain() {
        is("Generated again it USES all that the new one NEEDS, also if it USED nothing",
            "open(); publish(0, 255, 0); publish(0, 255, 255); client(0, 0, 0, 0); again(0, 1) = 255");
        is("and, of what it USED, what the new one HAS: all, some, nothing",
            "open(); publish(0, 255, 0); publish(0, 255, 0); publish(0, 15, 0); publish(0, 0, 0); client(0, 0, 0, 60); "
                + "again(0, 1) = 60; again(0, 2) = 12; again(0, 3) = 0; again(0, 0) = 0");
        is("both at once, and what is NEEDED and USED once only",
            "open(); publish(0, 255, 0); publish(0, 15, 5); client(0, 0, 0, 20); again(0, 1) = 5; again(0, 1) = 5");
    }

    private static void adapters() {
        is("ADAPTERS: at most 10, numbered from 0, of all INTERFACES together",
            "open(); open(); publish(0, 1, 0); publish(0, 1, 0); publish(1, 1, 0); publish(1, 1, 0); adapter(0, 0, 1, 0, 0) = 0; "
                + "4 * adapter(0, 1, 0, 0, 0); adapter(1, 0, 1, 0, 0) = 5; 3 * adapter(1, 1, 0, 0, 0); "
                + "adapter(1, 0, 1, 0, 0) = 9; adapter(1, 0, 1, 0, 0) = state; adapter(0, 0, 1, 0, 0) = state; many(6) = 10");
        is("without those that it DROPS, and, then, with those that it ADDS: one that it ADDS and DROPS is in it",
            SMALL + "adapter(0, 0, 1, 6, 255); ofClient(0, 8) = 6",
            SMALL + "adapter(0, 0, 1, 1, 1); ofClient(0, 8) = 1");
        is("an ADAPTER that ADDS and DROPS nothing, one that DROPS all, one that ADDS all",
            SMALL + "adapter(0, 0, 1, 0, 0); ofClient(0, 8) = 1",
            SMALL + "adapter(0, 0, 1, 0, 255); ofClient(0, 8) = 0",
            SMALL + "adapter(0, 0, 1, 255, 0); ofClient(0, 8) = 255",
            SMALL + "adapter(0, 0, 1, 255, 255); ofClient(0, 8) = 255");
        is("what is DROPPED and was not USED, what is ADDED and was USED: nothing changes",
            SMALL + "adapter(0, 0, 1, 0, 254); ofClient(0, 8) = 1", SMALL + "adapter(0, 0, 1, 1, 0); ofClient(0, 8) = 1");
    }

    /** Versions 0 to 4 with a field each, and one of five more fields; a chain of adapters from each to the next. */
    private static String chain(int adapters) {
        String chain = "open(); publish(0, 1, 1); publish(0, 2, 2); publish(0, 4, 4); publish(0, 8, 8); publish(0, 16, 16); "
            + "client(0, 0, 0, 1); ";
        for (int k = 0; k < adapters; k++) {
            int adds = k + 1 == adapters ? 1 << k + 1 : 32;
            chain += "adapter(0, " + k + ", " + (k + 1) + ", " + adds + ", 255); ";
        }
        return chain;
    }

    private static void routes() {
        is("A ROUTE: 1 to 3 ADAPTERS: none, 1, 2, 3, and not 4",
            chain(0) + "ofClient(0, 6) = -1; ofClient(0, 7) = -1; ofClient(0, 8) = -1; routed(0, 0) = bounds",
            chain(1) + "ofClient(0, 6) = 1; ofClient(0, 7) = 1; ofClient(0, 8) = 2; routed(0, 0) = 0; routed(0, 1) = bounds",
            chain(2) + "ofClient(0, 6) = 2; ofClient(0, 7) = 2; ofClient(0, 8) = 4; routed(0, 1) = 1; routed(0, 2) = bounds",
            chain(3) + "ofClient(0, 6) = 3; ofClient(0, 7) = 3; ofClient(0, 8) = 8; routed(0, 2) = 2; routed(0, 3) = bounds",
            chain(4) + "ofClient(0, 6) = -1; ofClient(0, 7) = -1; ofClient(0, 8) = -1; routed(0, 0) = bounds");
        is("that it stands at an OPEN VERSION that it FITS is no ROUTE of no ADAPTERS",
            SMALL + "ofClient(0, 6) = -1; ofClient(0, 7) = -1");
        is("also one of them more than once",
            "open(); publish(0, 1, 0); publish(0, 6, 6); client(0, 0, 0, 1); adapter(0, 0, 1, 2, 1); adapter(0, 1, 0, 4, 2); "
                + "ofClient(0, 6) = 3; routed(0, 0) = 0; routed(0, 1) = 1; routed(0, 2) = 0; ofClient(0, 8) = 6");
        is("the first one from that VERSION: one that leads to it, or between others, is none",
            SMALL + "adapter(0, 1, 0, 0, 0); ofClient(0, 6) = -1",
            SMALL + "publish(0, 255, 0); adapter(0, 1, 2, 0, 0); ofClient(0, 6) = -1");
        is("each other one from where the one ahead of it leads to",
            "open(); publish(0, 1, 0); publish(0, 2, 2); publish(0, 4, 4); client(0, 0, 0, 1); adapter(0, 0, 1, 32, 255); "
                + "adapter(0, 0, 2, 32, 255); adapter(0, 2, 1, 2, 255); ofClient(0, 6) = 2; routed(0, 0) = 1; routed(0, 1) = 2");
        is("of its own INTERFACE: the ADAPTERS of another one with the same numbers do not lead",
            "open(); open(); publish(0, 1, 0); publish(0, 1, 0); publish(1, 1, 0); publish(1, 1, 0); client(0, 0, 0, 1); "
                + "adapter(1, 0, 1, 0, 0); ofClient(0, 6) = -1");
        is("FITS the VERSION to which the last one leads: one NEEDED is not there, one is there that it does not HAVE",
            "open(); publish(0, 255, 0); publish(0, 6, 2); client(0, 0, 0, 1); adapter(0, 0, 1, 4, 1); ofClient(0, 6) = -1; "
                + "adapter(0, 0, 1, 2, 0); ofClient(0, 6) = -1; adapter(0, 0, 1, 2, 1); ofClient(0, 6) = 1; routed(0, 0) = 2");
        is("what is made between need not FIT, nor be a subset of what is there",
            "open(); publish(0, 1, 0); publish(0, 0, 0); publish(0, 1, 0); client(0, 0, 0, 1); adapter(0, 0, 1, 254, 0); "
                + "adapter(0, 1, 2, 0, 254); ofClient(0, 6) = 2; ofClient(0, 8) = 1");
        is("and that is OPEN: not RETIRING, not GONE; those between may be",
            SMALL + "adapter(0, 0, 1, 0, 0); retire(0, 1, 1); ofClient(0, 6) = -1; pass(24) = 1; ofClient(0, 6) = -1; "
                + "publish(0, 255, 0); adapter(0, 1, 2, 0, 0); ofClient(0, 6) = 2; ofClient(0, 7) = 2",
            SMALL + "adapter(0, 0, 1, 0, 0); retire(0, 1, 1); recall(0, 1); ofClient(0, 6) = 1",
            SMALL + "publish(0, 255, 0); adapter(0, 0, 1, 0, 0); adapter(0, 1, 2, 0, 0); retire(0, 1, 1); ofClient(0, 6) = 2");
        is("there and back to its own VERSION, while that is OPEN",
            SMALL + "retire(0, 1, 1); adapter(0, 0, 1, 0, 0); adapter(0, 1, 0, 0, 0); ofClient(0, 6) = 2; ofClient(0, 7) = 0; "
                + "retire(0, 0, 1); ofClient(0, 6) = -1");
    }

    private static void bestRoutes() {
        is("the fewest ADAPTERS, also if they have the greater numbers",
            SMALL + "publish(0, 3, 2); adapter(0, 0, 2, 4, 0); adapter(0, 2, 1, 0, 0); routed(0, 0) = 0; ofClient(0, 6) = 2; "
                + "adapter(0, 0, 1, 0, 0); ofClient(0, 6) = 1; routed(0, 0) = 2; routed(0, 1) = bounds");
        is("of several the smaller number at the first place: of one ADAPTER",
            SMALL + "publish(0, 255, 0); adapter(0, 0, 2, 2, 0); adapter(0, 0, 1, 4, 0); routed(0, 0) = 0; ofClient(0, 7) = 2; "
                + "ofClient(0, 8) = 3");
        is("at the first place where they are not the same: the second one",
            "open(); publish(0, 1, 0); publish(0, 2, 2); publish(0, 1, 0); publish(0, 1, 0); client(0, 0, 0, 1); "
                + "adapter(0, 1, 3, 0, 0); adapter(0, 0, 1, 0, 0); adapter(0, 1, 2, 0, 0); ofClient(0, 6) = 2; "
                + "routed(0, 0) = 1; routed(0, 1) = 0; ofClient(0, 7) = 3");
        is("at the first place where they are not the same: the third one",
            "open(); publish(0, 1, 0); publish(0, 2, 2); publish(0, 2, 2); publish(0, 1, 0); client(0, 0, 0, 1); "
                + "adapter(0, 2, 3, 0, 255); adapter(0, 2, 3, 1, 255); adapter(0, 0, 1, 4, 0); adapter(0, 1, 2, 4, 0); "
                + "ofClient(0, 6) = 3; routed(0, 0) = 2; routed(0, 1) = 3; routed(0, 2) = 0; ofClient(0, 8) = 0");
        is("the first place counts ahead of the second one",
            "open(); publish(0, 1, 0); publish(0, 2, 2); publish(0, 2, 2); publish(0, 1, 0); client(0, 0, 0, 1); "
                + "adapter(0, 2, 3, 0, 255); adapter(0, 0, 1, 4, 0); adapter(0, 0, 2, 4, 0); adapter(0, 1, 3, 1, 255); "
                + "ofClient(0, 6) = 2; routed(0, 0) = 1; routed(0, 1) = 3; ofClient(0, 8) = 1");
        is("the smaller number does not count, if it makes no ROUTE",
            SMALL + "publish(0, 0, 0); adapter(0, 0, 2, 0, 0); adapter(0, 0, 1, 0, 0); routed(0, 0) = 1");
    }

    private static void whatComesOfACall() {
        is("OPEN: 0, SERVED, without a QUOTA", SMALL + "wouldCome(0, 0) = 0; 10 * call(0, 20) = 20; wouldCome(0, 0) = 0; many(8) = 0");
        is("RETIRING: 2, if it is BROWNED OUT, also with the QUOTA used up ahead of it",
            SMALL + "retire(0, 0, 9); pass(24); call(0, 20) = 0; wouldCome(0, 0) = 2",
            SMALL + "pass(24); call(0, 20) = 20; retire(0, 0, 9); wouldCome(0, 0) = 3; pass(24); wouldCome(0, 0) = 2");
        is("otherwise 3, if its QUOTA, or more, were SERVED already: one less, as many, more",
            SMALL + "retire(0, 0, 9); call(0, 7) = 7; wouldCome(0, 0) = 0; call(0, 1) = 1; wouldCome(0, 0) = 3; call(0, 1) = 0",
            SMALL + "call(0, 7) = 7; retire(0, 0, 9); wouldCome(0, 0) = 0; call(0, 2) = 1",
            SMALL + "call(0, 8) = 8; retire(0, 0, 9); wouldCome(0, 0) = 3; call(0, 2) = 0",
            SMALL + "call(0, 9) = 9; retire(0, 0, 9); wouldCome(0, 0) = 3; call(0, 2) = 0");
        is("of CALLS that were SERVED: those that were not do not count for the QUOTA",
            SMALL + "retire(0, 0, 9); pass(24); call(0, 20) = 0; pass(2); call(0, 20) = 7; pass(1); call(0, 20) = 7");
        is("of CALLS that were SERVED: not those that were BROWNED OUT in this HOUR, as it is RECALLED and RETIRED again in it",
            SMALL + "retire(0, 0, 9); pass(24); call(0, 20) = 0; recall(0, 0); retire(0, 0, 9); wouldCome(0, 0) = 0; call(0, 20) = 8",
            SMALL + "retire(0, 0, 9); pass(24); call(0, 20) = 0; recall(0, 0); call(0, 3) = 3; retire(0, 0, 9); call(0, 20) = 5");
        is("of this CLIENT: another one of the same OWNER has its own QUOTA",
            SMALL + "client(0, 0, 0, 1); retire(0, 0, 9); call(0, 20) = 8; call(1, 20) = 8");
        is("to it: what was SERVED by another VERSION does not count",
            SMALL + "call(0, 20) = 20; again(0, 1); retire(0, 1, 9); call(0, 20) = 8");
        is("in the HOUR that is NOW: not in the one ahead of it",
            SMALL + "retire(0, 0, 9); call(0, 20) = 8; pass(1); call(0, 20) = 8; pass(1); wouldCome(0, 0) = 0; call(0, 8) = 8");
        is("otherwise 0: RETIRING, not BROWNED OUT, within the QUOTA; by no ROUTE, though it has one",
            SMALL + "adapter(0, 0, 1, 0, 0); retire(0, 0, 9); call(0, 20) = 8; many(8) = 12; many(9) = 0");
        is("GONE: 1, if the CLIENT has a ROUTE from it: it is SERVED, too, without a QUOTA",
            SMALL + "adapter(0, 0, 1, 0, 0); retire(0, 0, 1); pass(24) = 1; wouldCome(0, 0) = 1; call(0, 20) = 20; "
                + "call(0, 20) = 20; many(8) = 0; many(9) = 40; servedShare() = 1.0");
        is("GONE: otherwise 4", SMALL + "retire(0, 0, 1); pass(24) = 1; wouldCome(0, 0) = 4; call(0, 20) = 0; many(8) = 20; "
            + "many(9) = 0; servedShare() = 0.0");
        is("GONE is never BROWNED OUT: the first HOUR of what would be a day",
            SMALL + "adapter(0, 0, 1, 0, 0); retire(0, 0, 2); pass(48) = 1; call(0, 1) = 1; pass(24); call(0, 1) = 1");
    }

    private static void callers() {
        is("a CALLER, if it CALLED it fewer than 24 HOURS ago: 0, 23, 24",
            SMALL + "ofVersion(0, 0, 5) = 0; call(0, 1); ofVersion(0, 0, 5) = 1; pass(23); ofVersion(0, 0, 5) = 1; pass(1); "
                + "ofVersion(0, 0, 5) = 0; call(0, 1); ofVersion(0, 0, 5) = 1");
        is("the last CALL counts, not the first one",
            SMALL + "call(0, 1); pass(23); call(0, 1); pass(23); ofVersion(0, 0, 5) = 1; pass(1); ofVersion(0, 0, 5) = 0");
        is("whatever came of it: BROWNED OUT",
            SMALL + "retire(0, 0, 9); pass(24); ofVersion(0, 0, 5) = 0; call(0, 1) = 0; ofVersion(0, 0, 5) = 1");
        is("whatever came of it: GONE, without a ROUTE, and with one it is of the GONE one alone",
            SMALL + "retire(0, 0, 1); pass(24); call(0, 1) = 0; ofVersion(0, 0, 5) = 1; pass(24); adapter(0, 0, 1, 0, 0); "
                + "call(0, 1) = 1; ofVersion(0, 0, 5) = 1; ofVersion(0, 1, 5) = 0; lastCall(0, 1) = -1");
        is("also if it is generated for another one by now: of both, till 24 HOURS are over",
            SMALL + "call(0, 1); again(0, 1); pass(1); call(0, 1); ofVersion(0, 0, 5) = 1; ofVersion(0, 1, 5) = 1; pass(23); "
                + "ofVersion(0, 0, 5) = 0; ofVersion(0, 1, 5) = 1");
        is("each CLIENT once, however often it CALLED",
            SMALL + "client(0, 0, 0, 1); 3 * call(0, 20); call(1, 1); ofVersion(0, 0, 5) = 2");
    }

    private static void retired() {
        is("RETIRED for 1 to 9 days: its END is 24 HOURS later for each day",
            SMALL + "pass(100); retire(0, 0, 1); ofVersion(0, 0, 3) = 100; ofVersion(0, 0, 4) = 124; retire(0, 1, 9); "
                + "ofVersion(0, 1, 3) = 100; ofVersion(0, 1, 4) = 316");
        is("A VERSION that is OPEN is RETIRED: not one that is RETIRING, nor GONE",
            SMALL + "retire(0, 0, 1); retire(0, 0, 1) = state; pass(24); retire(0, 0, 1) = state");
        is("it BEGAN NOW, also at 0", SMALL + "retire(0, 0, 1); ofVersion(0, 0, 3) = 0; ofVersion(0, 0, 4) = 24");
    }

    private static void brownedOut() {
        is("BROWNED OUT, if its HOUR is below 2 * DAY: never on day 0",
            SMALL + "retire(0, 0, 9); wouldCome(0, 0) = 0; wouldCome(0, 23) = 0; call(0, 1) = 1");
        is("day 1: HOURS 0 and 1", SMALL + "retire(0, 0, 9); wouldCome(0, 24) = 2; wouldCome(0, 25) = 2; wouldCome(0, 26) = 0; "
            + "wouldCome(0, 47) = 0; pass(25); call(0, 1) = 0; pass(1); call(0, 1) = 1");
        is("day 2: HOURS 0 to 3", SMALL + "retire(0, 0, 9); wouldCome(0, 48) = 2; wouldCome(0, 51) = 2; wouldCome(0, 52) = 0");
        is("day 5: HOURS 0 to 9, below 12 by itself", SMALL + "retire(0, 0, 9); pass(100); wouldCome(0, 20) = 2; "
            + "wouldCome(0, 29) = 2; wouldCome(0, 30) = 0; pass(29); call(0, 1) = 0; pass(1); call(0, 1) = 1");
        is("day 6: HOURS 0 to 11, as 2 * 6 is 12", SMALL + "retire(0, 0, 9); pass(100); wouldCome(0, 44) = 2; wouldCome(0, 55) = 2; "
            + "wouldCome(0, 56) = 0; pass(55); call(0, 1) = 0; pass(1); call(0, 1) = 1");
        is("and below 12: day 7, HOURS 0 to 11 alone", SMALL + "retire(0, 0, 9); pass(100); pass(68); wouldCome(0, 0) = 2; "
            + "wouldCome(0, 11) = 2; wouldCome(0, 12) = 0; wouldCome(0, 13) = 0; wouldCome(0, 23) = 0; pass(11); "
            + "call(0, 1) = 0; pass(1); call(0, 1) = 1");
        is("day 8: HOURS 0 to 11 alone", SMALL + "retire(0, 0, 9); pass(100); pass(92); wouldCome(0, 11) = 2; wouldCome(0, 12) = 0; "
            + "wouldCome(0, 23) = 0; wouldCome(0, 24) = 4");
        is("days behind the ninth, as it was PUT OFF: HOURS 0 to 11 alone",
            SMALL + "retire(0, 0, 9); pass(100); pass(100); pass(15); call(0, 1) = 1; pass(1) = 0; ofVersion(0, 0, 7) = 1; "
                + "wouldCome(0, 0) = 2; wouldCome(0, 11) = 2; wouldCome(0, 12) = 0; wouldCome(0, 23) = 0; wouldCome(0, 24) = 4");
        is("its HOUR is told from when it BEGAN, not from 0",
            SMALL + "pass(7); retire(0, 0, 9); wouldCome(0, 17) = 0; wouldCome(0, 23) = 0; wouldCome(0, 24) = 2; "
                + "wouldCome(0, 25) = 2; wouldCome(0, 26) = 0");
    }

    private static void quota() {
        is("Its QUOTA is 8 - DAY: 8 on day 0, till its last HOUR", SMALL + "retire(0, 0, 9); call(0, 20) = 8; pass(23); call(0, 20) = 8");
        is("7 on day 1", SMALL + "retire(0, 0, 9); pass(26); call(0, 20) = 7; pass(21); call(0, 20) = 7");
        is("2 on day 6", SMALL + "retire(0, 0, 9); pass(100); pass(56); call(0, 20) = 2");
        is("1 on day 7", SMALL + "retire(0, 0, 9); pass(100); pass(80); call(0, 20) = 1; pass(11); call(0, 20) = 1");
        is("its DAY is told from when it BEGAN, not from 0",
            SMALL + "pass(30); retire(0, 0, 9); call(0, 20) = 8; pass(23); call(0, 20) = 8; pass(3); call(0, 20) = 7; pass(22); "
                + "wouldCome(0, 0) = 2; pass(4); call(0, 20) = 6");
        is("1 at the least: on day 8, and behind it", SMALL + "retire(0, 0, 9); pass(100); pass(100); pass(4); call(0, 20) = 1; "
            + "pass(11); call(0, 20) = 1; pass(13); ofVersion(0, 0, 7) = 1; call(0, 20) = 1; pass(1); call(0, 1) = 1");
    }

    private static void asked() {
        is("as it is RETIRED those of all its CALLERS: 23 HOURS ago, not 24",
            SMALL + "client(1, 0, 0, 1); call(0, 1); pass(1); call(1, 1); pass(23); retire(0, 0, 1) = 1; asked(0, 0, 0) = 0; "
                + "asked(1, 0, 0) = 1");
        is("also of those that are generated for another one by now",
            SMALL + "call(0, 1); again(0, 1); retire(0, 0, 1) = 1; asked(0, 0, 0) = 1; asked(0, 0, 1) = 0");
        is("not of those that are generated for it, and did not CALL", SMALL + "retire(0, 0, 1) = 0; asked(0, 0, 0) = 0");
        is("with each CALL to it while it is RETIRING, ahead of all else: also if that is BROWNED OUT",
            SMALL + "retire(0, 0, 9); pass(24); call(0, 1) = 0; asked(0, 0, 0) = 1");
        is("also if the QUOTA was used up ahead of that",
            SMALL + "client(1, 0, 0, 1); retire(0, 0, 9); call(0, 20) = 8; asked(0, 0, 0) = 1; asked(1, 0, 0) = 0");
        is("the OWNER, if it was not: the HOUR in which it was ASKED first stays",
            SMALL + "retire(0, 0, 9); call(0, 1); pass(71); call(0, 1); asked(0, 0, 0) = 1; pass(1); asked(0, 0, 0) = 2");
        is("the OWNER, not the CLIENT: another CLIENT of it does not ask it anew",
            SMALL + "client(0, 0, 0, 1); retire(0, 0, 9); call(0, 1); pass(71); call(1, 1); pass(1); asked(0, 0, 0) = 2; "
                + "ofVersion(0, 0, 6) = 0");
        is("not with a CALL while it is OPEN, nor GONE",
            SMALL + "call(0, 1); asked(0, 0, 0) = 0; pass(24); retire(0, 0, 1) = 0; pass(24) = 1; call(0, 1); asked(0, 0, 0) = 0; "
                + "answer(0, 0, 0) = state");
        is("not with a CALL to another VERSION",
            SMALL + "client(1, 0, 1, 1); retire(0, 0, 9); call(1, 1); asked(1, 0, 0) = 0; asked(1, 0, 1) = 0");
    }

    private static void warned() {
        is("WARNED as soon as it was ASKED 72 HOURS ago, or more: 71, 72, 73",
            SMALL + "call(0, 1); retire(0, 0, 9); pass(71); asked(0, 0, 0) = 1; pass(1); asked(0, 0, 0) = 2; pass(1); "
                + "asked(0, 0, 0) = 2; answer(0, 0, 0) = true");
        is("WARNED once it ANSWERED, in the same HOUR",
            SMALL + "call(0, 1); retire(0, 0, 1); asked(0, 0, 0) = 1; answer(0, 0, 0) = false; asked(0, 0, 0) = 3; "
                + "answer(0, 0, 0) = true; ofVersion(0, 0, 6) = 0");
        is("WARNED for it: not for another VERSION",
            SMALL + "call(0, 1); again(0, 1); call(0, 1); retire(0, 0, 9); retire(0, 1, 9); answer(0, 0, 0) = false; "
                + "asked(0, 0, 1) = 1; ofVersion(0, 0, 6) = 0; ofVersion(0, 1, 6) = 1");
    }

    private static void hinders() {
        is("A CLIENT HINDERS a RETIRING VERSION: not an OPEN one, not a GONE one",
            SMALL + "call(0, 1); ofVersion(0, 0, 6) = 0; retire(0, 0, 1); ofVersion(0, 0, 6) = 1; answer(0, 0, 0) = false; "
                + "pass(24) = 1; call(0, 1); ofVersion(0, 0, 5) = 1; ofVersion(0, 0, 6) = 0");
        is("if it is a CALLER of it: 23 HOURS ago, not 24",
            SMALL + "call(0, 1); retire(0, 0, 9); pass(23); ofVersion(0, 0, 6) = 1; pass(1); ofVersion(0, 0, 6) = 0");
        is("its OWNER is not WARNED for it: 71 HOURS, not 72",
            SMALL + "call(0, 1); retire(0, 0, 9); pass(71); call(0, 1); ofVersion(0, 0, 6) = 1; pass(1); ofVersion(0, 0, 6) = 0");
        is("and it has no ROUTE from it: from that VERSION, not from that for which it is generated",
            SMALL + "publish(0, 255, 0); call(0, 1); again(0, 1); retire(0, 0, 9); adapter(0, 1, 2, 0, 0); ofVersion(0, 0, 6) = 1; "
                + "adapter(0, 0, 2, 0, 0); ofVersion(0, 0, 6) = 0");
        is("of what it USES now: what was made of it as it was generated again counts",
            "open(); publish(0, 3, 0); publish(0, 2, 0); publish(0, 2, 0); client(0, 0, 0, 3); call(0, 1); retire(0, 0, 9); "
                + "adapter(0, 0, 2, 0, 0); ofVersion(0, 0, 6) = 1; again(0, 1) = 2; ofVersion(0, 0, 6) = 0");
        is("all CLIENTS of an OWNER HINDER, till it ANSWERED",
            SMALL + "2 * client(0, 0, 0, 1); call(0, 1); call(1, 1); call(2, 1); retire(0, 0, 1) = 1; ofVersion(0, 0, 6) = 3; "
                + "answer(0, 0, 0); ofVersion(0, 0, 6) = 0");
    }

    private static void anHourBegins() {
        is("whose END is NOW: not an HOUR ahead of it, though nobody HINDERS it",
            SMALL + "retire(0, 0, 1); pass(23) = 0; ofVersion(0, 0, 2) = 1; pass(1) = 1; ofVersion(0, 0, 2) = 2");
        is("nobody HINDERS it at the END: its last CALL is 24 HOURS old just then",
            SMALL + "call(0, 1); retire(0, 0, 1) = 1; ofVersion(0, 0, 6) = 1; pass(23) = 0; ofVersion(0, 0, 6) = 1; pass(1) = 1; "
                + "ofVersion(0, 0, 7) = 0");
        is("its last CALL is 23 HOURS old at the END: it is PUT OFF",
            SMALL + "retire(0, 0, 1); pass(1); call(0, 1); pass(23) = 0; ofVersion(0, 0, 7) = 1; ofVersion(0, 0, 2) = 1");
        is("its OWNER is WARNED just at the END, ASKED 72 HOURS ago",
            SMALL + "call(0, 1); retire(0, 0, 3); pass(71); call(0, 1); pass(1) = 1; ofVersion(0, 0, 7) = 0");
        is("its OWNER was ASKED 71 HOURS ago at the END: it is PUT OFF",
            SMALL + "retire(0, 0, 3); pass(1); call(0, 1); pass(70); call(0, 1); pass(1) = 0; ofVersion(0, 0, 7) = 1");
        is("INTERFACE by INTERFACE, VERSION by VERSION: all whose END it is become GONE in that HOUR",
            "open(); open(); publish(0, 1, 0); publish(0, 1, 0); publish(1, 1, 0); retire(0, 0, 1); retire(0, 1, 1); "
                + "retire(1, 0, 1); pass(23) = 0; pass(1) = 3; many(4) = 3");
        is("of two that end at once one is GONE, the other one PUT OFF, as the way to the first one does not save",
            SMALL + "adapter(0, 0, 1, 0, 0); call(0, 1); retire(0, 0, 1); retire(0, 1, 1); pass(20); call(0, 1); pass(4) = 1; "
                + "ofVersion(0, 0, 2) = 1; ofVersion(0, 0, 7) = 1; ofVersion(0, 1, 2) = 2");
    }

    private static void putOff() {
        is("otherwise its END is 24 HOURS later: it is looked at again then alone",
            SMALL + "retire(0, 0, 1); pass(23); call(0, 1); pass(1) = 0; ofVersion(0, 0, 4) = 48; answer(0, 0, 0) = false; "
                + "ofVersion(0, 0, 6) = 0; pass(23) = 0; pass(1) = 1; ofVersion(0, 0, 4) = 48");
        is("it is PUT OFF as often as it takes",
            SMALL + "call(0, 1); retire(0, 0, 1); pass(23); call(0, 1); pass(1) = 0; pass(23); call(0, 1); pass(1) = 0; "
                + "ofVersion(0, 0, 7) = 2; ofVersion(0, 0, 4) = 72; pass(23); call(0, 1); pass(1) = 1; ofVersion(0, 0, 7) = 2");
        is("its DAY and HOUR go on from when it BEGAN",
            SMALL + "retire(0, 0, 1); pass(23); call(0, 1); pass(1) = 0; ofVersion(0, 0, 3) = 0; call(0, 1) = 0; pass(2); "
                + "call(0, 20) = 7");
    }

    private static void recalled() {
        is("RECALLED: it is OPEN again, without BEGAN and END",
            SMALL + "retire(0, 0, 1); recall(0, 0) = 24; ofVersion(0, 0, 2) = 0; ofVersion(0, 0, 3) = -1; ofVersion(0, 0, 4) = -1; "
                + "pass(24) = 0; ofVersion(0, 0, 2) = 0; call(0, 20) = 20");
        is("nobody was ASKED for it",
            SMALL + "call(0, 1); retire(0, 0, 1) = 1; recall(0, 0); asked(0, 0, 0) = 0; retire(0, 0, 1) = 1; recall(0, 0); pass(24); "
                + "retire(0, 0, 1) = 0; asked(0, 0, 0) = 0; answer(0, 0, 0) = state");
        is("nor ANSWERED",
            SMALL + "call(0, 1); retire(0, 0, 1); answer(0, 0, 0) = false; recall(0, 0); retire(0, 0, 1) = 1; asked(0, 0, 0) = 1; "
                + "ofVersion(0, 0, 6) = 1; answer(0, 0, 0) = false");
        is("the HOURS of silence are told anew",
            SMALL + "call(0, 1); retire(0, 0, 9); pass(71); call(0, 1); recall(0, 0); retire(0, 0, 9) = 1; pass(1); "
                + "asked(0, 0, 0) = 1; pass(70); asked(0, 0, 0) = 1; pass(1); asked(0, 0, 0) = 2");
        is("what CALLED it stays a CALLER", SMALL + "call(0, 1); retire(0, 0, 1); recall(0, 0); ofVersion(0, 0, 5) = 1; lastCall(0, 0) = 0");
    }
}
