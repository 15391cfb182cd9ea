/** The boundary cases of promises 14 to 19 (retire, answer, recall, asked, many, servedShare), sentence by sentence. */
public final class BoundaryRetirementsTest {
    private static final Expect E = new Expect();

    /** Two versions that have all and need nothing, and a client of owner 0 of version 0. */
    private static final String SMALL = "open(); publish(0, 255, 0); publish(0, 255, 0); client(0, 0, 0, 1); ";

    public static void main(String[] args) {
        retire();
        retireRefuses();
        answer();
        answerRefuses();
        recall();
        recallRefuses();
        asked();
        askedRefuses();
        many();
        manyRefuses();
        servedShare();
        E.end();
    }

    private static void is(String sentence, String... runs) {
        Sentence.holds(E, sentence, runs);
    }

    private static void retire() {
        is("14: for 1 day, for 9 days", SMALL + "retire(0, 0, 1) = 0; ofVersion(0, 0, 4) = 24; retire(0, 1, 9) = 0; ofVersion(0, 1, 4) = 216");
        is("14: returns how many OWNERS are ASKED: none, one of several CLIENTS, all 5",
            SMALL + "retire(0, 0, 1) = 0",
            SMALL + "2 * client(0, 0, 0, 1); call(0, 1); call(1, 1); call(2, 1); retire(0, 0, 1) = 1",
            SMALL + "client(1, 0, 0, 1); client(2, 0, 0, 1); client(3, 0, 0, 1); client(4, 0, 0, 1); client(4, 0, 0, 1); call(0, 1); "
                + "call(1, 1); call(2, 1); call(3, 1); call(4, 1); call(5, 1); retire(0, 0, 1) = 5; asked(4, 0, 0) = 1");
        is("14: those of its CALLERS: 23 HOURS ago, 24 HOURS ago",
            SMALL + "call(0, 1); pass(23); retire(0, 0, 1) = 1", SMALL + "call(0, 1); pass(24); retire(0, 0, 1) = 0");
        is("14: of this VERSION alone: the CALLERS of the other ones are not ASKED",
            "open(); open(); publish(0, 1, 0); publish(0, 1, 0); publish(1, 1, 0); client(0, 0, 1, 0); client(1, 1, 0, 0); call(0, 1); "
                + "call(1, 1); retire(0, 0, 1) = 0; retire(0, 1, 1) = 1; retire(1, 0, 1) = 1; asked(0, 0, 1) = 1; asked(1, 1, 0) = 1; "
                + "asked(0, 1, 0) = 0; asked(1, 0, 1) = 0");
        is("14: all that are OPEN can be RETIRED at once, also the last one",
            SMALL + "retire(0, 0, 1); retire(0, 1, 1); many(2) = 0; many(3) = 2; pass(24) = 2; many(4) = 2");
    }

    private static void retireRefuses() {
        is("14: throws IndexOutOfBoundsException if there is no such INTERFACE, or VERSION",
            SMALL + "retire(-1, 0, 1) = bounds; retire(1, 0, 1) = bounds; retire(4, 0, 1) = bounds; retire(MIN, 0, 1) = bounds; "
                + "retire(MAX, 0, 1) = bounds; retire(0, -1, 1) = bounds; retire(0, 2, 1) = bounds; retire(0, 6, 1) = bounds; "
                + "retire(0, MIN, 1) = bounds; retire(0, MAX, 1) = bounds; many(3) = 0");
        is("14: throws IllegalArgumentException if days is not 1 to 9",
            SMALL + "retire(0, 0, 0) = argument; retire(0, 0, 10) = argument; retire(0, 0, -1) = argument; retire(0, 0, MIN) = argument; "
                + "retire(0, 0, MAX) = argument; many(3) = 0");
        is("14: throws IllegalStateException if it is not OPEN: its END and who was ASKED stay",
            SMALL + "call(0, 1); retire(0, 0, 1) = 1; pass(5); retire(0, 0, 9) = state; ofVersion(0, 0, 3) = 0; ofVersion(0, 0, 4) = 24; "
                + "asked(0, 0, 0) = 1; pass(19) = 1; retire(0, 0, 1) = state; ofVersion(0, 0, 2) = 2");
        is("14: the VERSION is looked at first, then the days, then its state",
            SMALL + "retire(0, 0, 1); retire(0, 2, 0) = bounds; retire(1, 0, 10) = bounds; retire(0, 0, 0) = argument; "
                + "retire(0, 0, 10) = argument; retire(0, 0, 1) = state");
    }

    private static void answer() {
        is("15: returns whether it was WARNED ahead of that: not by this answer, by the one ahead of it",
            SMALL + "call(0, 1); retire(0, 0, 9); answer(0, 0, 0) = false; answer(0, 0, 0) = true; answer(0, 0, 0) = true");
        is("15: by its silence: 71 HOURS, 72 HOURS",
            SMALL + "call(0, 1); retire(0, 0, 9); pass(71); answer(0, 0, 0) = false; answer(0, 0, 0) = true",
            SMALL + "call(0, 1); retire(0, 0, 9); pass(72); answer(0, 0, 0) = true");
        is("15: the first and the last OWNER, each for itself",
            SMALL + "client(4, 0, 0, 1); call(0, 1); call(1, 1); retire(0, 0, 1) = 2; answer(4, 0, 0) = false; asked(0, 0, 0) = 1; "
                + "asked(4, 0, 0) = 3; ofVersion(0, 0, 6) = 1; answer(0, 0, 0) = false; ofVersion(0, 0, 6) = 0");
        is("15: the HOUR ahead of the END is early enough",
            SMALL + "retire(0, 0, 1); pass(23); call(0, 1); answer(0, 0, 0) = false; pass(1) = 1",
            SMALL + "retire(0, 0, 1); pass(23); call(0, 1); pass(1) = 0; answer(0, 0, 0) = false; pass(23) = 0; pass(1) = 1");
        is("15: an OWNER that ANSWERED stays WARNED, also if it CALLS again",
            SMALL + "call(0, 1); retire(0, 0, 1); answer(0, 0, 0) = false; pass(23); call(0, 1); asked(0, 0, 0) = 3; "
                + "ofVersion(0, 0, 5) = 1; ofVersion(0, 0, 6) = 0; pass(1) = 1");
    }

    private static void answerRefuses() {
        is("15: throws IndexOutOfBoundsException if there is no such OWNER",
            SMALL + "call(0, 1); retire(0, 0, 1); answer(-1, 0, 0) = bounds; answer(5, 0, 0) = bounds; answer(32, 0, 0) = bounds; "
                + "answer(MIN, 0, 0) = bounds; answer(MAX, 0, 0) = bounds; asked(0, 0, 0) = 1");
        is("15: or INTERFACE, or VERSION",
            SMALL + "call(0, 1); retire(0, 0, 1); answer(0, -1, 0) = bounds; answer(0, 1, 0) = bounds; answer(0, 4, 0) = bounds; "
                + "answer(0, MIN, 0) = bounds; answer(0, MAX, 0) = bounds; answer(0, 0, -1) = bounds; answer(0, 0, 2) = bounds; "
                + "answer(0, 0, 6) = bounds; answer(0, 0, MIN) = bounds; answer(0, 0, MAX) = bounds; asked(0, 0, 0) = 1");
        is("15: throws IllegalStateException if it is not RETIRING: OPEN, RECALLED, GONE",
            SMALL + "call(0, 1); answer(0, 0, 0) = state; retire(0, 0, 1) = 1; recall(0, 0); answer(0, 0, 0) = state; "
                + "retire(0, 0, 1) = 1; pass(24) = 1; answer(0, 0, 0) = state");
        is("15: or the OWNER was not ASKED for it: it has no CLIENT, or one that did not CALL, or was ASKED for another one",
            SMALL + "client(1, 0, 0, 1); retire(0, 0, 9); answer(4, 0, 0) = state; answer(1, 0, 0) = state; call(1, 1); "
                + "answer(1, 0, 0) = false; retire(0, 1, 9); answer(1, 0, 1) = state");
        is("15: no such OWNER is named ahead of the state", SMALL + "answer(5, 0, 0) = bounds; answer(0, 0, 2) = bounds; answer(0, 0, 0) = state");
    }

    private static void recall() {
        is("16: returns how many HOURS were left till its END: at once, an HOUR ahead of it, of 9 days",
            SMALL + "retire(0, 0, 1); recall(0, 0) = 24", SMALL + "retire(0, 0, 1); pass(23); recall(0, 0) = 1",
            SMALL + "retire(0, 0, 9); recall(0, 0) = 216", SMALL + "retire(0, 0, 9); pass(100); recall(0, 0) = 116");
        is("16: of one that was just PUT OFF", SMALL + "retire(0, 0, 1); pass(23); call(0, 1); pass(1) = 0; recall(0, 0) = 24");
        is("16: of what was PUT OFF and goes on", SMALL + "retire(0, 0, 1); pass(23); call(0, 1); pass(2) = 0; recall(0, 0) = 23");
        is("16: again and again", SMALL + "retire(0, 0, 1); recall(0, 0) = 24; retire(0, 0, 2); recall(0, 0) = 48; pass(48) = 0; many(2) = 2");
        is("16: the other VERSIONS go on", SMALL + "retire(0, 0, 1); retire(0, 1, 1); recall(0, 0) = 24; pass(24) = 1; many(2) = 1; many(4) = 1");
    }

    private static void recallRefuses() {
        is("16: throws IndexOutOfBoundsException if there is no such INTERFACE, or VERSION",
            SMALL + "retire(0, 0, 1); retire(0, 1, 1); recall(-1, 0) = bounds; recall(1, 0) = bounds; recall(4, 0) = bounds; "
                + "recall(MIN, 0) = bounds; recall(MAX, 0) = bounds; recall(0, -1) = bounds; recall(0, 2) = bounds; recall(0, 6) = bounds; "
                + "recall(0, MIN) = bounds; recall(0, MAX) = bounds; many(3) = 2");
        is("16: throws IllegalStateException if it is not RETIRING: OPEN, RECALLED, GONE",
            SMALL + "recall(0, 0) = state; retire(0, 0, 1); recall(0, 0) = 24; recall(0, 0) = state; retire(0, 0, 1); pass(24) = 1; "
                + "recall(0, 0) = state; many(4) = 1");
    }

    private static void asked() {
        is("17: 0 if it was not ASKED: as it is RETIRING, by the last OWNER without a CLIENT",
            SMALL + "retire(0, 0, 1); asked(0, 0, 0) = 0; asked(4, 0, 0) = 0");
        is("17: as always, if that is not RETIRING: OPEN, RECALLED, GONE, whether it ANSWERED or not",
            SMALL + "client(1, 0, 0, 1); asked(0, 0, 0) = 0; call(0, 1); call(1, 1); asked(0, 0, 0) = 0; retire(0, 0, 4) = 2; "
                + "answer(0, 0, 0); recall(0, 0); asked(0, 0, 0) = 0; asked(1, 0, 0) = 0; retire(0, 0, 4) = 2; answer(0, 0, 0); "
                + "pass(95); asked(0, 0, 0) = 3; asked(1, 0, 0) = 2; pass(1) = 1; asked(0, 0, 0) = 0; asked(1, 0, 0) = 0");
        is("17: 1 if it was, and is not WARNED, till 71 HOURS; 2 by its silence alone from 72 on",
            SMALL + "pass(5); retire(0, 0, 9); call(0, 1); asked(0, 0, 0) = 1; pass(71); asked(0, 0, 0) = 1; pass(1); asked(0, 0, 0) = 2; "
                + "pass(100); asked(0, 0, 0) = 2");
        is("17: 3 if it ANSWERED: ahead of 72 HOURS, and behind them",
            SMALL + "call(0, 1); retire(0, 0, 9); answer(0, 0, 0) = false; asked(0, 0, 0) = 3; pass(72); asked(0, 0, 0) = 3",
            SMALL + "call(0, 1); retire(0, 0, 9); pass(72); asked(0, 0, 0) = 2; answer(0, 0, 0) = true; asked(0, 0, 0) = 3");
        is("17: ASKED at HOUR 0 is ASKED", SMALL + "retire(0, 0, 9); call(0, 1); asked(0, 0, 0) = 1; pass(72); asked(0, 0, 0) = 2");
    }

    private static void askedRefuses() {
        is("17: throws IndexOutOfBoundsException if there is no such OWNER, INTERFACE, or VERSION",
            SMALL + "asked(-1, 0, 0) = bounds; asked(5, 0, 0) = bounds; asked(MIN, 0, 0) = bounds; asked(MAX, 0, 0) = bounds; "
                + "asked(0, -1, 0) = bounds; asked(0, 1, 0) = bounds; asked(0, 4, 0) = bounds; asked(0, MIN, 0) = bounds; "
                + "asked(0, MAX, 0) = bounds; asked(0, 0, -1) = bounds; asked(0, 0, 2) = bounds; asked(0, 0, 6) = bounds; "
                + "asked(0, 0, MIN) = bounds; asked(0, 0, MAX) = bounds; asked(4, 0, 1) = 0");
    }

    private static void many() {
        is("18: 0 to 6: all that there can be",
            full() + "many(0) = 4; many(1) = 24; many(2) = 24; many(3) = 0; many(4) = 0; many(5) = 10; many(6) = 10");
        is("18: 2 to 4: each VERSION in one of them alone, and all of them in 1",
            SMALL + "publish(0, 1, 0); retire(0, 0, 1); many(1) = 3; many(2) = 2; many(3) = 1; many(4) = 0; pass(24); many(1) = 3; "
                + "many(2) = 2; many(3) = 0; many(4) = 1; retire(0, 1, 1); many(1) = 3; many(2) = 1; many(3) = 1; many(4) = 1; "
                + "recall(0, 1); many(2) = 2; many(3) = 0");
        is("18: 7 to 9: CALLS, those that were not SERVED, those that were SERVED by a ROUTE",
            SMALL + "call(0, 20); many(7) = 20; many(8) = 0; many(9) = 0; retire(0, 0, 1); call(0, 20) = 0; many(7) = 40; "
                + "many(8) = 20; many(9) = 0; answer(0, 0, 0); pass(24) = 1; call(0, 1) = 0; many(8) = 21; many(9) = 0; "
                + "adapter(0, 0, 1, 0, 0); call(0, 20) = 20; many(7) = 61; many(8) = 21; many(9) = 20");
        is("18: 7 to 9: ever: what is RECALLED, or generated again, keeps them",
            SMALL + "retire(0, 0, 1); call(0, 10) = 8; recall(0, 0); again(0, 1); pass(100); many(7) = 10; many(8) = 2");
        is("18: 7: as many as can be", SMALL + "400 * call(0, 20) = 20; many(7) = 8000; ofClient(0, 4) = 8000; ofVersion(0, 0, 8) = 8000; "
            + "servedShare() = 1.0");
        is("18: 10: NOW", SMALL + "many(10) = 0; pass(1); many(10) = 1; pass(100); many(10) = 101");
    }

    private static String full() {
        return "4 * open(); 6 * publish(0, 1, 0); 6 * publish(1, 1, 0); 6 * publish(2, 1, 0); 6 * publish(3, 1, 0); "
            + "10 * client(0, 3, 5, 0); 10 * adapter(3, 5, 4, 0, 0); open() = state; publish(0, 1, 0) = state; "
            + "client(0, 3, 5, 0) = state; adapter(3, 5, 4, 0, 0) = state; ";
    }

    private static void manyRefuses() {
        is("18: throws IllegalArgumentException if what is not 0 to 10",
            "many(-1) = argument; many(11) = argument; many(MIN) = argument; many(MAX) = argument; many(0) = 0; many(10) = 0");
    }

    private static void servedShare() {
        is("19: 1 without any", "servedShare() = 1.0", SMALL + "retire(0, 0, 1); pass(24); servedShare() = 1.0");
        is("19: all of one, none of one",
            SMALL + "call(0, 1); servedShare() = 1.0", SMALL + "retire(0, 0, 1); pass(24); call(0, 1) = 0; servedShare() = 0.0");
        is("19: not cut: a third, two thirds, nearly none, nearly all",
            SMALL + "call(0, 1); retire(0, 0, 1); answer(0, 0, 0); pass(24) = 1; call(0, 2) = 0; servedShare() = " + 1.0 / 3.0,
            SMALL + "call(0, 2); retire(0, 0, 1); answer(0, 0, 0); pass(24) = 1; call(0, 1) = 0; servedShare() = " + 2.0 / 3.0,
            SMALL + "call(0, 1); retire(0, 0, 1); answer(0, 0, 0); pass(24) = 1; 300 * call(0, 20) = 0; servedShare() = " + 1.0 / 6001.0,
            SMALL + "300 * call(0, 20) = 20; retire(0, 0, 1); call(0, 1) = 0; servedShare() = " + 6000.0 / 6001.0);
        is("19: those that are SERVED by a ROUTE are SERVED",
            SMALL + "retire(0, 0, 1); pass(24) = 1; call(0, 1) = 0; adapter(0, 0, 1, 0, 0); call(0, 1) = 1; servedShare() = 0.5");
        is("19: of all CLIENTS and VERSIONS together",
            SMALL + "client(1, 0, 1, 1); call(0, 3); call(1, 4); retire(0, 1, 1); call(1, 5) = 4; servedShare() = " + 11.0 / 12.0);
    }
}
