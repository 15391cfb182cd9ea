/** The boundary cases of promises 11 to 13 (call, pass, lastCall), sentence by sentence. */
public final class BoundaryTrafficTest {
    private static final Expect E = new Expect();

    /** Two versions that have all and need nothing, and a client of owner 0 of version 0. */
    private static final String SMALL = "open(); publish(0, 255, 0); publish(0, 255, 0); client(0, 0, 0, 1); ";

    public static void main(String[] args) {
        call();
        callRefuses();
        pass();
        passRefuses();
        lastCall();
        lastCallRefuses();
        E.end();
    }

    private static void is(String sentence, String... runs) {
        Sentence.holds(E, sentence, runs);
    }

    private static void call() {
        is("11: some times: 1, 20", SMALL + "call(0, 1) = 1; ofClient(0, 4) = 1; call(0, 20) = 20; ofClient(0, 4) = 21");
        is("11: returns how many were SERVED: all, some, none",
            SMALL + "retire(0, 0, 9); call(0, 8) = 8; pass(1); call(0, 9) = 8; call(0, 20) = 0; many(7) = 37; many(8) = 21");
        is("11: one by one: the QUOTA ends within one call()",
            SMALL + "retire(0, 0, 9); call(0, 5) = 5; call(0, 5) = 3; ofVersion(0, 0, 8) = 10; ofVersion(0, 0, 9) = 2; "
                + "ofClient(0, 5) = 2; many(8) = 2");
        is("11: NOW: no HOUR passes", SMALL + "call(0, 20); many(10) = 0; lastCall(0, 0) = 0");
        is("11: the last HOUR ahead of the END, and the END itself",
            SMALL + "retire(0, 0, 1); pass(23); call(0, 20) = 8; recall(0, 0) = 1",
            SMALL + "adapter(0, 0, 1, 0, 0); retire(0, 0, 1); pass(23); call(0, 20) = 8; pass(1) = 1; call(0, 20) = 20; many(9) = 20");
        is("11: the HOUR of the END in which it is PUT OFF: day 1 begins BROWNED OUT",
            SMALL + "retire(0, 0, 1); pass(23); call(0, 1); pass(1) = 0; call(0, 20) = 0; pass(1); call(0, 20) = 0; pass(1); "
                + "call(0, 20) = 7");
        is("11: the last one of 10 CLIENTS", SMALL + "9 * client(4, 0, 1, 0); call(9, 20) = 20; ofClient(9, 4) = 20; ofVersion(0, 1, 8) = 20");
    }

    private static void callRefuses() {
        is("11: throws IndexOutOfBoundsException if there is no such CLIENT",
            SMALL + "call(-1, 1) = bounds; call(1, 1) = bounds; call(9, 1) = bounds; call(10, 1) = bounds; call(MIN, 1) = bounds; "
                + "call(MAX, 1) = bounds; many(7) = 0");
        is("11: throws IllegalArgumentException if times is not 1 to 20",
            SMALL + "call(0, 0) = argument; call(0, 21) = argument; call(0, -1) = argument; call(0, MIN) = argument; "
                + "call(0, MAX) = argument; many(7) = 0; lastCall(0, 0) = -1; call(0, 20) = 20");
        is("11: a refused one asks nobody, and uses nothing of a QUOTA",
            SMALL + "retire(0, 0, 9); call(0, 0) = argument; call(0, 21) = argument; asked(0, 0, 0) = 0; ofVersion(0, 0, 5) = 0; "
                + "call(0, 20) = 8");
        is("11: no such CLIENT is named first", SMALL + "call(1, 0) = bounds; call(-1, 21) = bounds");
    }

    private static void pass() {
        is("12: HOURS begin: 1, 100", SMALL + "pass(1) = 0; many(10) = 1; pass(100) = 0; many(10) = 101");
        is("12: returns how many become GONE by that: none, one, those of several HOURS, not those that were GONE",
            "open(); 6 * publish(0, 1, 0); retire(0, 0, 1); retire(0, 1, 2); retire(0, 2, 2); retire(0, 3, 4); pass(23) = 0; "
                + "pass(1) = 1; pass(24) = 2; pass(47) = 0; pass(1) = 1; pass(100) = 0; many(4) = 4; many(2) = 2");
        is("12: all 24 at once",
            full() + "pass(23) = 0; pass(1) = 24; many(4) = 24; many(3) = 0; pass(1) = 0");
        is("12: one behind the other: an END that is PUT OFF within one pass() is met again in it",
            SMALL + "retire(0, 0, 1); pass(10); call(0, 1); pass(38) = 1; ofVersion(0, 0, 7) = 1; ofVersion(0, 0, 4) = 48",
            SMALL + "retire(0, 0, 1); pass(10); call(0, 1); pass(37) = 0; ofVersion(0, 0, 7) = 1; ofVersion(0, 0, 2) = 1");
        is("12: pass(n) is n times pass(1)",
            SMALL + "retire(0, 0, 1); pass(10); call(0, 1); 13 * pass(1) = 0; ofVersion(0, 0, 7) = 0; pass(1) = 0; "
                + "ofVersion(0, 0, 7) = 1; 23 * pass(1) = 0; pass(1) = 1; many(10) = 48");
        is("12: the longest retirement: GONE at 216, not at 215",
            SMALL + "retire(0, 0, 9); pass(100) = 0; pass(100) = 0; pass(15) = 0; pass(1) = 1");
        is("12: what is OPEN, or RECALLED, does not end",
            SMALL + "retire(0, 0, 1); pass(23); recall(0, 0) = 1; 3 * pass(100) = 0; many(2) = 2");
        is("12: HOURS without end: 300 times 100", SMALL + "call(0, 1); 300 * pass(100) = 0; many(10) = 30000; lastCall(0, 0) = 30000; "
            + "ofVersion(0, 0, 5) = 0; retire(0, 0, 1) = 0; ofVersion(0, 0, 3) = 30000; ofVersion(0, 0, 4) = 30024; goneIn(0, 0) = 24; "
            + "pass(24) = 1");
    }

    /** All interfaces with all versions, all of them retiring for a day, with nobody who calls them. */
    private static String full() {
        StringBuilder run = new StringBuilder("4 * open(); ");
        for (int face = 0; face < 4; face++) {
            for (int version = 0; version < 6; version++) {
                run.append("publish(" + face + ", 1, 0) = " + version + "; retire(" + face + ", " + version + ", 1) = 0; ");
            }
        }
        return run.toString();
    }

    private static void passRefuses() {
        is("12: throws IllegalArgumentException if hours is not 1 to 100",
            SMALL + "pass(0) = argument; pass(101) = argument; pass(-1) = argument; pass(MIN) = argument; pass(MAX) = argument; "
                + "many(10) = 0; pass(100) = 0; many(10) = 100");
        is("12: a refused one ends nothing, and leaves what is left of a QUOTA",
            SMALL + "retire(0, 0, 1); pass(23); call(0, 8) = 8; pass(0) = argument; pass(101) = argument; call(0, 1) = 0; "
                + "ofVersion(0, 0, 2) = 1; recall(0, 0) = 1");
    }

    private static void lastCall() {
        is("13: how many HOURS ago: 0, 1, 23, 24, 100, and more",
            SMALL + "call(0, 1); lastCall(0, 0) = 0; pass(1); lastCall(0, 0) = 1; pass(22); lastCall(0, 0) = 23; pass(1); "
                + "lastCall(0, 0) = 24; pass(76); lastCall(0, 0) = 100; pass(100); lastCall(0, 0) = 200");
        is("13: last: a later CALL counts, in a later HOUR and in the same one",
            SMALL + "call(0, 1); pass(5); lastCall(0, 0) = 5; call(0, 1); lastCall(0, 0) = 0; call(0, 1); lastCall(0, 0) = 0; pass(1); "
                + "lastCall(0, 0) = 1");
        is("13: NONE, if never: not by this CLIENT, not this VERSION, not by being generated for it",
            SMALL + "client(0, 0, 0, 1); call(0, 1); lastCall(1, 0) = -1; lastCall(0, 1) = -1; again(0, 1); lastCall(0, 1) = -1; "
                + "lastCall(0, 0) = 0");
        is("13: a CALL at HOUR 0 is one", SMALL + "call(0, 1); pass(100); lastCall(0, 0) = 100; lastCall(0, 1) = -1");
        is("13: whatever came of it: BROWNED OUT, over the QUOTA, GONE without a ROUTE, GONE with one",
            SMALL + "retire(0, 0, 2); pass(24); call(0, 1) = 0; lastCall(0, 0) = 0; pass(24) = 1; call(0, 1) = 0; lastCall(0, 0) = 0; "
                + "adapter(0, 0, 1, 0, 0); pass(1); lastCall(0, 0) = 1; call(0, 1) = 1; lastCall(0, 0) = 0; lastCall(0, 1) = -1",
            SMALL + "retire(0, 0, 2); call(0, 8); pass(1); call(0, 8); lastCall(0, 0) = 0; call(0, 1) = 0; lastCall(0, 0) = 0");
        is("13: a VERSION of its INTERFACE: that with the same number of another one was not CALLED",
            "open(); open(); publish(0, 1, 0); publish(1, 1, 0); client(0, 0, 0, 1); client(0, 1, 0, 1); call(0, 1); "
                + "lastCall(0, 0) = 0; lastCall(1, 0) = -1");
    }

    private static void lastCallRefuses() {
        is("13: throws IndexOutOfBoundsException if there is no such CLIENT, or VERSION",
            SMALL + "lastCall(-1, 0) = bounds; lastCall(1, 0) = bounds; lastCall(10, 0) = bounds; lastCall(MIN, 0) = bounds; "
                + "lastCall(MAX, 0) = bounds; lastCall(0, -1) = bounds; lastCall(0, 2) = bounds; lastCall(0, 5) = bounds; "
                + "lastCall(0, 6) = bounds; lastCall(0, MIN) = bounds; lastCall(0, MAX) = bounds; lastCall(0, 1) = -1");
        is("13: a VERSION of its INTERFACE: another one has more",
            "open(); open(); publish(0, 1, 0); publish(1, 1, 0); publish(1, 1, 0); client(0, 0, 0, 0); client(0, 1, 0, 0); "
                + "lastCall(0, 1) = bounds; lastCall(1, 1) = -1");
    }
}
