/** The boundary cases of promises 6 to 10 (client, again, adapter, ofClient, routed), sentence by sentence. */
public final class BoundaryClientsTest {
    private static final Expect E = new Expect();

    /** Two versions that have all and need nothing, and a client of owner 0 of version 0. */
    private static final String SMALL = "open(); publish(0, 255, 0); publish(0, 255, 0); client(0, 0, 0, 1); ";

    public static void main(String[] args) {
        client();
        clientRefuses();
        again();
        againRefuses();
        adapter();
        adapterRefuses();
        ofClient();
        ofClientRefuses();
        routed();
        E.end();
    }

    private static void is(String sentence, String... runs) {
        Sentence.holds(E, sentence, runs);
    }

    private static void client() {
        is("6: returns its number, from 0 to 9",
            "open(); publish(0, 1, 0); client(0, 0, 0, 0) = 0; client(0, 0, 0, 0) = 1; 7 * client(0, 0, 0, 0); client(0, 0, 0, 0) = 9");
        is("6: the last VERSION of the last INTERFACE, the last OWNER",
            "4 * open(); 6 * publish(3, 255, 128); client(4, 3, 5, 128) = 0; ofClient(0, 0) = 4; ofClient(0, 1) = 3; "
                + "ofClient(0, 2) = 5; ofClient(0, 3) = 128");
        is("6: it made no CALL, and is no CALLER", SMALL + "ofClient(0, 4) = 0; ofClient(0, 5) = 0; ofVersion(0, 0, 5) = 0; lastCall(0, 0) = -1");
        is("6: one that comes while another VERSION is RETIRING or GONE",
            SMALL + "retire(0, 0, 1); client(0, 0, 1, 1) = 1; pass(24); client(0, 0, 1, 1) = 2");
    }

    private static void clientRefuses() {
        is("6: throws IndexOutOfBoundsException if there is no such INTERFACE, or VERSION",
            SMALL + "client(0, -1, 0, 0) = bounds; client(0, 1, 0, 0) = bounds; client(0, 4, 0, 0) = bounds; client(0, MIN, 0, 0) = bounds; "
                + "client(0, MAX, 0, 0) = bounds; client(0, 0, -1, 0) = bounds; client(0, 0, 2, 0) = bounds; client(0, 0, 6, 0) = bounds; "
                + "client(0, 0, MIN, 0) = bounds; client(0, 0, MAX, 0) = bounds; many(5) = 1");
        is("6: throws IllegalArgumentException if owner is not 0 to 4",
            SMALL + "client(-1, 0, 0, 0) = argument; client(5, 0, 0, 0) = argument; client(MIN, 0, 0, 0) = argument; "
                + "client(MAX, 0, 0, 0) = argument; client(4, 0, 0, 0) = 1; client(0, 0, 0, 0) = 2");
        is("6: or uses is not 0 to 255",
            SMALL + "client(0, 0, 0, -1) = argument; client(0, 0, 0, 256) = argument; client(0, 0, 0, MIN) = argument; "
                + "client(0, 0, 0, MAX) = argument; client(0, 0, 0, 255) = 1; client(0, 0, 0, 0) = 2");
        is("6: or does not FIT the VERSION",
            "open(); publish(0, 7, 2); client(0, 0, 0, 0) = argument; client(0, 0, 0, 5) = argument; client(0, 0, 0, 10) = argument; "
                + "client(0, 0, 0, 2) = 0; client(0, 0, 0, 7) = 1");
        is("6: throws IllegalStateException if there are 10, and generates none",
            SMALL + "9 * client(0, 0, 0, 1); client(0, 0, 0, 1) = state; client(0, 0, 1, 1) = state; many(5) = 10; ofVersion(0, 0, 10) = 10");
        is("6: or the VERSION is not OPEN: RETIRING, GONE",
            SMALL + "retire(0, 0, 1); client(0, 0, 0, 1) = state; pass(23); client(0, 0, 0, 1) = state; pass(1) = 1; "
                + "client(0, 0, 0, 1) = state; many(5) = 1",
            SMALL + "retire(0, 0, 1); recall(0, 0); client(0, 0, 0, 1) = 1");
        is("6: the VERSION is looked at first, then OWNER and FIELDS, then the state",
            SMALL + "9 * client(0, 0, 0, 1); retire(0, 0, 1); client(5, 0, 2, 256) = bounds; client(5, 1, 0, 0) = bounds; "
                + "client(5, 0, 0, 1) = argument; client(0, 0, 0, 256) = argument; client(0, 0, 0, 1) = state",
            "open(); publish(0, 1, 1); retire(0, 0, 1); client(0, 0, 0, 0) = argument; client(0, 0, 0, 1) = state");
    }

    private static void again() {
        is("7: returns what it USES then: nothing, all",
            "open(); publish(0, 255, 0); publish(0, 0, 0); publish(0, 255, 255); client(0, 0, 0, 7); again(0, 1) = 0; again(0, 2) = 255; "
                + "ofClient(0, 3) = 255; again(0, 1) = 0; ofClient(0, 3) = 0");
        is("7: also for that which it has: nothing changes",
            "open(); publish(0, 7, 2); client(0, 0, 0, 6); call(0, 3); again(0, 0) = 6; ofClient(0, 2) = 0; ofClient(0, 3) = 6; "
                + "ofClient(0, 4) = 3; ofVersion(0, 0, 5) = 1; ofVersion(0, 0, 10) = 1");
        is("7: back again: what was lost is lost, what was NEEDED stays",
            "open(); publish(0, 255, 0); publish(0, 3, 2); client(0, 0, 0, 13); again(0, 1) = 3; again(0, 0) = 3");
        is("7: away from what is RETIRING, and from what is GONE",
            SMALL + "retire(0, 0, 1); again(0, 1) = 1; ofClient(0, 2) = 1; again(0, 0) = state",
            SMALL + "retire(0, 0, 1); pass(24) = 1; again(0, 1) = 1; call(0, 20) = 20; again(0, 0) = state");
    }

    private static void againRefuses() {
        is("7: throws IndexOutOfBoundsException if there is no such CLIENT, or VERSION",
            SMALL + "again(-1, 0) = bounds; again(1, 0) = bounds; again(10, 0) = bounds; again(MIN, 0) = bounds; again(MAX, 0) = bounds; "
                + "again(0, -1) = bounds; again(0, 2) = bounds; again(0, 6) = bounds; again(0, MIN) = bounds; again(0, MAX) = bounds; "
                + "again(0, 1) = 1");
        is("7: a VERSION of its INTERFACE: another one has more",
            "open(); open(); publish(0, 1, 0); publish(1, 1, 0); publish(1, 1, 0); client(0, 0, 0, 0); client(0, 1, 0, 0); "
                + "again(0, 1) = bounds; again(1, 1) = 0");
        is("7: throws IllegalStateException if the VERSION is not OPEN: RETIRING, GONE, also if it has it",
            SMALL + "retire(0, 1, 1); again(0, 1) = state; pass(24) = 1; again(0, 1) = state; retire(0, 0, 1); again(0, 0) = state; "
                + "pass(24) = 1; again(0, 0) = state; ofClient(0, 2) = 0");
        is("7: no such CLIENT is named first", SMALL + "retire(0, 1, 1); again(1, 1) = bounds; again(-1, 1) = bounds");
    }

    private static void adapter() {
        is("8: returns its number, from 0 to 9",
            SMALL + "adapter(0, 0, 1, 0, 0) = 0; adapter(0, 0, 1, 0, 0) = 1; 7 * adapter(0, 1, 0, 255, 255); adapter(0, 1, 0, 0, 0) = 9; "
                + "many(6) = 10");
        is("8: adds and drops are 0 to 255: the edges",
            SMALL + "adapter(0, 0, 1, 0, 255) = 0; adapter(0, 0, 1, 255, 0) = 1; ofClient(0, 8) = 0");
        is("8: from and to what is RETIRING, and what is GONE",
            SMALL + "retire(0, 0, 1); retire(0, 1, 2); adapter(0, 0, 1, 0, 0) = 0; adapter(0, 1, 0, 0, 0) = 1; pass(48) = 2; "
                + "adapter(0, 0, 1, 0, 0) = 2; adapter(0, 1, 0, 0, 0) = 3; many(6) = 4");
        is("8: the last VERSIONS of the last INTERFACE",
            "4 * open(); 6 * publish(3, 1, 0); client(0, 3, 5, 0); adapter(3, 5, 4, 1, 0) = 0; ofClient(0, 7) = 4; ofClient(0, 8) = 1");
    }

    private static void adapterRefuses() {
        is("8: throws IndexOutOfBoundsException if there is no such INTERFACE, or VERSION",
            SMALL + "adapter(-1, 0, 1, 0, 0) = bounds; adapter(1, 0, 1, 0, 0) = bounds; adapter(4, 0, 1, 0, 0) = bounds; "
                + "adapter(MIN, 0, 1, 0, 0) = bounds; adapter(MAX, 0, 1, 0, 0) = bounds; adapter(0, -1, 1, 0, 0) = bounds; "
                + "adapter(0, 2, 1, 0, 0) = bounds; adapter(0, 0, -1, 0, 0) = bounds; adapter(0, 0, 2, 0, 0) = bounds; "
                + "adapter(0, 6, 0, 0, 0) = bounds; adapter(0, 0, 6, 0, 0) = bounds; adapter(0, MIN, 0, 0, 0) = bounds; "
                + "adapter(0, 0, MAX, 0, 0) = bounds; many(6) = 0");
        is("8: throws IllegalArgumentException if both VERSIONS are the same",
            SMALL + "adapter(0, 0, 0, 0, 0) = argument; adapter(0, 1, 1, 1, 1) = argument; many(6) = 0");
        is("8: or adds is not 0 to 255",
            SMALL + "adapter(0, 0, 1, -1, 0) = argument; adapter(0, 0, 1, 256, 0) = argument; adapter(0, 0, 1, MIN, 0) = argument; "
                + "adapter(0, 0, 1, MAX, 0) = argument; many(6) = 0");
        is("8: or drops is not 0 to 255",
            SMALL + "adapter(0, 0, 1, 0, -1) = argument; adapter(0, 0, 1, 0, 256) = argument; adapter(0, 0, 1, 0, MIN) = argument; "
                + "adapter(0, 0, 1, 0, MAX) = argument; many(6) = 0");
        is("8: throws IllegalStateException if there are 10, and adds none",
            SMALL + "10 * adapter(0, 1, 0, 0, 0); adapter(0, 0, 1, 0, 0) = state; adapter(0, 1, 0, 0, 0) = state; many(6) = 10; "
                + "ofClient(0, 6) = -1");
        is("8: the VERSIONS are looked at first, then what is told of them, then how many there are",
            SMALL + "10 * adapter(0, 1, 0, 0, 0); adapter(0, 2, 2, 256, 256) = bounds; adapter(0, 0, 0, 0, 0) = argument; "
                + "adapter(0, 0, 1, 256, 0) = argument; adapter(0, 0, 1, 0, 256) = argument; adapter(0, 0, 1, 0, 0) = state");
    }

    private static void ofClient() {
        is("9: what 0 to 8, of a CLIENT to which nothing happened",
            "open(); open(); publish(1, 1, 0); publish(1, 255, 0); client(3, 1, 1, 200); ofClient(0, 0) = 3; ofClient(0, 1) = 1; "
                + "ofClient(0, 2) = 1; ofClient(0, 3) = 200; ofClient(0, 4) = 0; ofClient(0, 5) = 0; ofClient(0, 6) = -1; "
                + "ofClient(0, 7) = -1; ofClient(0, 8) = -1");
        is("9: the last one of 10", SMALL + "8 * client(1, 0, 0, 0); client(4, 0, 1, 9) = 9; ofClient(9, 0) = 4; ofClient(9, 3) = 9");
        is("9: 4 and 5: CALLS it made ever, to all VERSIONS, and those that were not SERVED",
            SMALL + "call(0, 20); again(0, 1); call(0, 20); ofClient(0, 4) = 40; ofClient(0, 5) = 0; pass(1); retire(0, 1, 1); "
                + "call(0, 8); ofClient(0, 5) = 0; call(0, 1); ofClient(0, 4) = 49; ofClient(0, 5) = 1; again(0, 0); ofClient(0, 5) = 1");
        is("9: 4 and 5: of another CLIENT they are its own",
            SMALL + "client(0, 0, 0, 1); retire(0, 0, 1); call(0, 9); ofClient(1, 4) = 0; ofClient(1, 5) = 0");
        is("9: 6 to 8: NONE without a ROUTE, 1 to 3, where it leads, what it makes: nothing, all",
            SMALL + "adapter(0, 1, 0, 0, 0); ofClient(0, 6) = -1; ofClient(0, 7) = -1; ofClient(0, 8) = -1",
            SMALL + "adapter(0, 0, 1, 0, 1); ofClient(0, 6) = 1; ofClient(0, 7) = 1; ofClient(0, 8) = 0",
            SMALL + "adapter(0, 0, 1, 254, 0); ofClient(0, 6) = 1; ofClient(0, 7) = 1; ofClient(0, 8) = 255");
        is("9: 6 to 8: from its VERSION: as it is generated again they change",
            SMALL + "publish(0, 255, 0); adapter(0, 0, 1, 0, 0); adapter(0, 1, 2, 2, 0); ofClient(0, 7) = 1; again(0, 1); "
                + "ofClient(0, 6) = 1; ofClient(0, 7) = 2; ofClient(0, 8) = 3; again(0, 2); ofClient(0, 6) = -1");
        is("9: 3 is not what the ROUTE makes, also when it CALLS by it",
            SMALL + "adapter(0, 0, 1, 2, 1); retire(0, 0, 1); pass(24); call(0, 1) = 1; ofClient(0, 3) = 1; ofClient(0, 2) = 0; "
                + "ofClient(0, 8) = 2");
    }

    private static void ofClientRefuses() {
        is("9: throws IndexOutOfBoundsException if there is no such CLIENT",
            SMALL + "ofClient(-1, 0) = bounds; ofClient(1, 0) = bounds; ofClient(9, 0) = bounds; ofClient(10, 0) = bounds; "
                + "ofClient(MIN, 0) = bounds; ofClient(MAX, 0) = bounds; ofClient(0, 0) = 0");
        is("9: throws IllegalArgumentException if what is not 0 to 8",
            SMALL + "ofClient(0, -1) = argument; ofClient(0, 9) = argument; ofClient(0, MIN) = argument; ofClient(0, MAX) = argument");
        is("9: no such CLIENT is named first", SMALL + "ofClient(1, 9) = bounds; ofClient(-1, -1) = bounds");
    }

    private static void routed() {
        is("10: a place from 0: the first one, the last one of one, two and three",
            SMALL + "adapter(0, 0, 1, 0, 0); routed(0, 0) = 0; routed(0, 1) = bounds; routed(0, 2) = bounds",
            SMALL + "publish(0, 1, 0); retire(0, 1, 9); adapter(0, 1, 2, 0, 0); adapter(0, 0, 1, 0, 0); routed(0, 0) = 1; "
                + "routed(0, 1) = 0; routed(0, 2) = bounds; routed(0, 3) = bounds",
            "open(); publish(0, 1, 0); publish(0, 6, 6); client(0, 0, 0, 1); 3 * adapter(0, 1, 0, 4, 2); adapter(0, 0, 1, 2, 1); "
                + "routed(0, 0) = 3; routed(0, 1) = 0; routed(0, 2) = 3; routed(0, 3) = bounds");
        is("10: throws IndexOutOfBoundsException if there is no such CLIENT",
            SMALL + "adapter(0, 0, 1, 0, 0); routed(-1, 0) = bounds; routed(1, 0) = bounds; routed(10, 0) = bounds; "
                + "routed(MIN, 0) = bounds; routed(MAX, 0) = bounds");
        is("10: or ROUTE: none yet, and none any more",
            SMALL + "routed(0, 0) = bounds; adapter(0, 0, 1, 0, 0); routed(0, 0) = 0; retire(0, 1, 1); routed(0, 0) = bounds; "
                + "recall(0, 1); routed(0, 0) = 0; again(0, 1); routed(0, 0) = bounds");
        is("10: or ROUTE: the one that was looked at for another CLIENT does not count",
            SMALL + "client(0, 0, 1, 1); adapter(0, 0, 1, 0, 0); routed(0, 0) = 0; routed(1, 0) = bounds; ofClient(0, 6) = 1; "
                + "routed(1, 0) = bounds");
        is("10: or place",
            SMALL + "adapter(0, 0, 1, 0, 0); routed(0, -1) = bounds; routed(0, 1) = bounds; routed(0, MIN) = bounds; "
                + "routed(0, MAX) = bounds; routed(0, 0) = 0");
    }
}
