/** The boundary cases of promises 1 to 5 (a new object, open, publish, ofVersion, isCompatible), sentence by sentence. */
public final class BoundaryInterfacesTest {
    private static final Expect E = new Expect();

    /** Two versions that have all and need nothing, and a client of owner 0 of version 0. */
    private static final String SMALL = "open(); publish(0, 255, 0); publish(0, 255, 0); client(0, 0, 0, 1); ";

    public static void main(String[] args) {
        aNewObject();
        open();
        publish();
        publishRefuses();
        ofVersion();
        ofVersionRefuses();
        isCompatible();
        E.end();
    }

    private static void is(String sentence, String... runs) {
        Sentence.holds(E, sentence, runs);
    }

    private static void aNewObject() {
        is("1: without INTERFACES, and so without all else",
            "many(0) = 0; many(1) = 0; many(2) = 0; many(3) = 0; many(4) = 0; many(5) = 0; many(6) = 0; many(7) = 0; "
                + "many(8) = 0; many(9) = 0; many(10) = 0; servedShare() = 1.0");
        is("1: there is nothing that could be asked",
            "publish(0, 0, 0) = bounds; ofVersion(0, 0, 0) = bounds; isCompatible(0, 0, 0) = bounds; "
                + "client(0, 0, 0, 0) = bounds; again(0, 0) = bounds; adapter(0, 0, 1, 0, 0) = bounds; "
                + "ofClient(0, 0) = bounds; routed(0, 0) = bounds; call(0, 1) = bounds; lastCall(0, 0) = bounds; "
                + "retire(0, 0, 1) = bounds; answer(0, 0, 0) = bounds; recall(0, 0) = bounds; asked(0, 0, 0) = bounds; "
                + "wouldCome(0, 0) = bounds; goneIn(0, 0) = bounds; wouldBreak(0, 0, 0) = bounds; target(0) = bounds; "
                + "goneBy(0, 0, 1) = bounds");
        is("1: HOURS pass in it all the same", "pass(100) = 0; many(10) = 100; pass(1) = 0; many(10) = 101");
        is("1: another object has nothing of the first one", SMALL + "call(0, 20); pass(100)", "many(0) = 0; many(7) = 0; many(10) = 0");
    }

    private static void open() {
        is("2: returns its number, from 0", "open() = 0; open() = 1; open() = 2; open() = 3");
        is("2: without VERSIONS", "open(); many(1) = 0; ofVersion(0, 0, 0) = bounds; publish(0, 1, 1) = 0");
        is("2: throws IllegalStateException if there are 4, each time, and adds none",
            "3 * open(); open() = 3; open() = state; open() = state; many(0) = 4; publish(3, 1, 1) = 0; publish(4, 1, 1) = bounds");
    }

    private static void publish() {
        is("3: returns with how many of those ahead of it it is COMPATIBLE: 0 for the first one, 5 at the most",
            "open(); publish(0, 3, 1) = 0; publish(0, 3, 1) = 1; publish(0, 3, 1) = 2; publish(0, 3, 1) = 3; publish(0, 3, 1) = 4; "
                + "publish(0, 3, 1) = 5");
        is("3: it with those, not those with it",
            "open(); publish(0, 3, 1) = 0; publish(0, 1, 1) = 0; publish(0, 7, 0) = 2; publish(0, 0, 0) = 0");
        is("3: of its own INTERFACE alone", "open(); open(); publish(0, 3, 1) = 0; publish(1, 3, 1) = 0; publish(1, 3, 1) = 1");
        is("3: GONE or not: RETIRING and GONE ones count",
            "open(); 3 * publish(0, 3, 1); retire(0, 0, 1); pass(24) = 1; retire(0, 1, 1); publish(0, 3, 1) = 3");
        is("3: has is 0 to 255: the edges", "open(); publish(0, 0, 0) = 0; publish(0, 255, 0) = 1; publish(0, 1, 0) = 1; publish(0, 254, 0) = 1");
        is("3: needs is 0 or more, and of these alone: the edges",
            "open(); publish(0, 255, 255) = 0; publish(0, 255, 0) = 1; publish(0, 128, 128) = 0; publish(0, 128, 0) = 1");
    }

    private static void publishRefuses() {
        is("3: throws IndexOutOfBoundsException if there is no such INTERFACE",
            "publish(0, 1, 1) = bounds; open(); publish(-1, 1, 1) = bounds; publish(1, 1, 1) = bounds; publish(4, 1, 1) = bounds; "
                + "publish(MIN, 1, 1) = bounds; publish(MAX, 1, 1) = bounds; publish(0, 1, 1) = 0");
        is("3: throws IllegalArgumentException if has is not 0 to 255",
            "open(); publish(0, -1, 0) = argument; publish(0, 256, 0) = argument; publish(0, MIN, 0) = argument; "
                + "publish(0, MAX, 0) = argument; publish(0, 511, 255) = argument; many(1) = 0");
        is("3: throws IllegalArgumentException if needs is not 0 or more",
            "open(); publish(0, 255, -1) = argument; publish(0, 255, MIN) = argument; publish(0, 0, -1) = argument; "
                + "publish(0, 0, MIN) = argument; many(1) = 0");
        is("3: throws IllegalArgumentException if needs is not of these alone",
            "open(); publish(0, 0, 1) = argument; publish(0, 254, 1) = argument; publish(0, 1, 3) = argument; "
                + "publish(0, 255, 256) = argument; publish(0, 255, MAX) = argument; publish(0, 127, 128) = argument; many(1) = 0");
        is("3: throws IllegalStateException if there are 6, and publishes none",
            "open(); 6 * publish(0, 1, 1); publish(0, 1, 1) = state; publish(0, 1, 1) = state; many(1) = 6");
        is("3: there are 6 also if all of them are GONE",
            "open(); publish(0, 1, 1); publish(0, 1, 1); publish(0, 1, 1); publish(0, 1, 1); publish(0, 1, 1); publish(0, 1, 1); "
                + "retire(0, 0, 1); retire(0, 1, 1); retire(0, 2, 1); retire(0, 3, 1); retire(0, 4, 1); retire(0, 5, 1); pass(24) = 6; "
                + "publish(0, 1, 1) = state; many(4) = 6");
        is("3: the INTERFACE is looked at first, then the sets, then the number of VERSIONS",
            "open(); 6 * publish(0, 1, 1); publish(1, 256, 0) = bounds; publish(0, 256, 0) = argument; publish(0, 1, 2) = argument; "
                + "publish(0, 1, 1) = state");
    }

    private static void ofVersion() {
        is("4: what 0 to 10, of a VERSION to which nothing happened",
            "open(); publish(0, 129, 128); ofVersion(0, 0, 0) = 129; ofVersion(0, 0, 1) = 128; ofVersion(0, 0, 2) = 0; "
                + "ofVersion(0, 0, 3) = -1; ofVersion(0, 0, 4) = -1; ofVersion(0, 0, 5) = 0; ofVersion(0, 0, 6) = 0; "
                + "ofVersion(0, 0, 7) = 0; ofVersion(0, 0, 8) = 0; ofVersion(0, 0, 9) = 0; ofVersion(0, 0, 10) = 0");
        is("4: the last VERSION of the last INTERFACE",
            "4 * open(); 5 * publish(3, 1, 0); publish(3, 240, 48); ofVersion(3, 5, 0) = 240; ofVersion(3, 5, 1) = 48; "
                + "ofVersion(3, 6, 0) = bounds");
        is("4: 2: OPEN, RETIRING, GONE",
            SMALL + "ofVersion(0, 0, 2) = 0; retire(0, 0, 1); ofVersion(0, 0, 2) = 1; pass(23); ofVersion(0, 0, 2) = 1; pass(1); "
                + "ofVersion(0, 0, 2) = 2; pass(100); ofVersion(0, 0, 2) = 2");
        is("4: 3 and 4: both NONE, if it is OPEN, and neither if it is RETIRING or GONE",
            SMALL + "ofVersion(0, 0, 3) = -1; ofVersion(0, 0, 4) = -1; retire(0, 0, 2); ofVersion(0, 0, 3) = 0; "
                + "ofVersion(0, 0, 4) = 48; pass(48); ofVersion(0, 0, 3) = 0; ofVersion(0, 0, 4) = 48; pass(9); "
                + "ofVersion(0, 0, 4) = 48; ofVersion(0, 1, 3) = -1",
            SMALL + "retire(0, 0, 2); recall(0, 0); ofVersion(0, 0, 3) = -1; ofVersion(0, 0, 4) = -1");
        is("4: 5: no CALLERS, all 10 CLIENTS",
            SMALL + "9 * client(1, 0, 0, 1); ofVersion(0, 0, 5) = 0; call(0, 1); call(1, 1); call(2, 1); call(3, 1); call(4, 1); "
                + "call(5, 1); call(6, 1); call(7, 1); call(8, 1); ofVersion(0, 0, 5) = 9; call(9, 1); ofVersion(0, 0, 5) = 10");
        is("4: 6: 0, if it is not RETIRING, though it has CALLERS that nobody warned",
            SMALL + "call(0, 1); ofVersion(0, 0, 6) = 0; retire(0, 0, 1); ofVersion(0, 0, 6) = 1; recall(0, 0); "
                + "ofVersion(0, 0, 6) = 0; pass(24); retire(0, 0, 1); pass(24) = 1; call(0, 1) = 0; ofVersion(0, 0, 5) = 1; "
                + "ofVersion(0, 0, 6) = 0");
        is("4: 6: all 10 CLIENTS",
            SMALL + "9 * client(1, 0, 0, 1); call(0, 1); call(1, 1); call(2, 1); call(3, 1); call(4, 1); call(5, 1); call(6, 1); "
                + "call(7, 1); call(8, 1); call(9, 1); retire(0, 0, 1) = 2; ofVersion(0, 0, 6) = 10; answer(0, 0, 0); "
                + "ofVersion(0, 0, 6) = 9; answer(1, 0, 0); ofVersion(0, 0, 6) = 0");
        is("4: 7: PUT OFF ever: also ahead of a recall, and when it is GONE",
            SMALL + "retire(0, 0, 1); pass(23); call(0, 1); pass(1) = 0; recall(0, 0) = 24; ofVersion(0, 0, 7) = 1; "
                + "retire(0, 0, 1); pass(22); call(0, 1); pass(2) = 0; ofVersion(0, 0, 7) = 2; pass(24) = 1; "
                + "ofVersion(0, 0, 7) = 2; ofVersion(0, 1, 7) = 0");
        is("4: 8 and 9: CALLS to it ever, and those that were not SERVED",
            SMALL + "10 * call(0, 20); ofVersion(0, 0, 8) = 200; ofVersion(0, 0, 9) = 0; pass(1); retire(0, 0, 1); call(0, 8); "
                + "ofVersion(0, 0, 9) = 0; call(0, 1); ofVersion(0, 0, 8) = 209; ofVersion(0, 0, 9) = 1; recall(0, 0); "
                + "ofVersion(0, 0, 8) = 209; ofVersion(0, 0, 9) = 1; ofVersion(0, 1, 8) = 0");
        is("4: 8 and 9: CALLS that are SERVED by a ROUTE are those of the VERSION from which it leads",
            SMALL + "adapter(0, 0, 1, 0, 0); retire(0, 0, 1); pass(24) = 1; call(0, 3) = 3; ofVersion(0, 0, 8) = 3; "
                + "ofVersion(0, 0, 9) = 0; ofVersion(0, 1, 8) = 0; retire(0, 1, 1); call(0, 2) = 0; ofVersion(0, 0, 8) = 5; "
                + "ofVersion(0, 0, 9) = 2; ofVersion(0, 1, 9) = 0");
        is("4: 10: CLIENTS that are generated for it: none, by now, all 10",
            SMALL + "ofVersion(0, 0, 10) = 1; ofVersion(0, 1, 10) = 0; again(0, 1); ofVersion(0, 0, 10) = 0; "
                + "ofVersion(0, 1, 10) = 1; again(0, 1); ofVersion(0, 1, 10) = 1; 9 * client(0, 0, 1, 1); ofVersion(0, 1, 10) = 10",
            SMALL + "retire(0, 0, 1); pass(24) = 1; ofVersion(0, 0, 10) = 1");
    }

    private static void ofVersionRefuses() {
        is("4: throws IndexOutOfBoundsException if there is no such INTERFACE, or VERSION",
            SMALL + "ofVersion(-1, 0, 0) = bounds; ofVersion(1, 0, 0) = bounds; ofVersion(4, 0, 0) = bounds; ofVersion(MIN, 0, 0) = bounds; "
                + "ofVersion(MAX, 0, 0) = bounds; ofVersion(0, -1, 0) = bounds; ofVersion(0, 2, 0) = bounds; "
                + "ofVersion(0, 6, 0) = bounds; ofVersion(0, MIN, 0) = bounds; ofVersion(0, MAX, 0) = bounds; ofVersion(0, 1, 0) = 255");
        is("4: throws IllegalArgumentException if what is not 0 to 10",
            SMALL + "ofVersion(0, 0, -1) = argument; ofVersion(0, 0, 11) = argument; ofVersion(0, 0, MIN) = argument; "
                + "ofVersion(0, 0, MAX) = argument; ofVersion(0, 0, 10) = 1");
        is("4: no such VERSION is named first", SMALL + "ofVersion(0, 2, 11) = bounds; ofVersion(1, 0, -1) = bounds");
    }

    private static void isCompatible() {
        is("5: or the same: that is COMPATIBLE",
            "open(); publish(0, 0, 0); publish(0, 255, 255); publish(0, 255, 0); isCompatible(0, 0, 0) = true; "
                + "isCompatible(0, 1, 1) = true; isCompatible(0, 2, 2) = true");
        is("5: the first one with the second one, not the other way round",
            "open(); publish(0, 0, 0); publish(0, 255, 255); publish(0, 255, 0); isCompatible(0, 2, 0) = true; "
                + "isCompatible(0, 0, 2) = false; isCompatible(0, 2, 1) = true; isCompatible(0, 1, 2) = false; "
                + "isCompatible(0, 1, 0) = false; isCompatible(0, 0, 1) = false");
        is("5: a field more or less in what they HAVE, in what they NEED",
            "open(); publish(0, 3, 1); publish(0, 131, 1); publish(0, 3, 3); isCompatible(0, 1, 0) = true; "
                + "isCompatible(0, 0, 1) = false; isCompatible(0, 0, 2) = true; isCompatible(0, 2, 0) = false; "
                + "isCompatible(0, 1, 2) = true; isCompatible(0, 2, 1) = false");
        is("5: whether it is OPEN, RETIRING or GONE does not count",
            "open(); publish(0, 3, 1); publish(0, 3, 1); retire(0, 0, 1); isCompatible(0, 0, 1) = true; pass(24); "
                + "isCompatible(0, 0, 1) = true; isCompatible(0, 1, 0) = true");
        is("5: throws IndexOutOfBoundsException if there is no such INTERFACE, or VERSION, of both",
            SMALL + "isCompatible(-1, 0, 0) = bounds; isCompatible(1, 0, 0) = bounds; isCompatible(MAX, 0, 0) = bounds; "
                + "isCompatible(0, -1, 0) = bounds; isCompatible(0, 2, 0) = bounds; isCompatible(0, 0, -1) = bounds; "
                + "isCompatible(0, 0, 2) = bounds; isCompatible(0, 2, 2) = bounds; isCompatible(0, MIN, 0) = bounds; "
                + "isCompatible(0, 0, MIN) = bounds; isCompatible(0, 0, MAX) = bounds; isCompatible(0, 1, 1) = true");
    }
}
