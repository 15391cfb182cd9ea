/** Promises 11 to 13: call, pass, lastCall. */
public final class TrafficTest {
    private static final Expect E = new Expect();

    public static void main(String[] args) {
        callWhileOpen();
        callRefuses();
        brownouts();
        quotas();
        quotaByHourClientAndVersion();
        callsOfWhatIsGone();
        callsAsk();
        pass();
        passPutsOff();
        passManyAtOnce();
        passRefuses();
        lastCall();
        E.end();
    }

    /** One interface with two versions that have all and need nothing, and a client of owner 0 of version 0. */
    private static ServiceApiary small() {
        ServiceApiary x = new ServiceApiary();
        x.open();
        x.publish(0, 255, 0);
        x.publish(0, 255, 0);
        x.client(0, 0, 0, 1);
        return x;
    }

    private static void callWhileOpen() {
        ServiceApiary x = small();
        E.due("call(0, 20)", x.call(0, 20), 20);
        E.due("call(0, 20) again", x.call(0, 20), 20);
        E.due("call(0, 1)", x.call(0, 1), 1);
        E.due("many(7)", x.many(7), 41);
        E.due("many(8)", x.many(8), 0);
        E.due("many(9)", x.many(9), 0);
        E.due("ofClient(0, 4)", x.ofClient(0, 4), 41);
    }

    private static void callRefuses() {
        ServiceApiary x = small();
        E.outOfBounds(x, "call(1, 1)", () -> x.call(1, 1));
        E.outOfBounds(x, "call(-1, 1)", () -> x.call(-1, 1));
        E.outOfBounds(x, "call(10, 0)", () -> x.call(10, 0));
        E.badArgument(x, "call(0, 0)", () -> x.call(0, 0));
        E.badArgument(x, "call(0, 21)", () -> x.call(0, 21));
        E.badArgument(x, "call(0, -1)", () -> x.call(0, -1));
    }

    /** By day: none, then the first two hours, four, ..., twelve at the most. */
    private static void brownouts() {
        ServiceApiary x = small();
        x.pass(31);
        x.retire(0, 0, 9);
        int[] brown = {0, 2, 4, 6, 8, 10, 12, 12, 12};
        for (int day = 0; day < 9; day++) {
            for (int hour = 0; hour < 24; hour++) {
                int due = hour < brown[day] ? 0 : 1;
                E.due("day " + day + ", hour " + hour + ": call(0, 1)", x.call(0, 1), due);
                x.pass(1);
            }
        }
        E.due("gone, as its owner was asked long ago", x.ofVersion(0, 0, 2), 2);
        E.due("not served", x.many(8), 66);
    }

    private static void quotas() {
        ServiceApiary x = small();
        x.retire(0, 0, 9);
        x.pass(12);
        for (int day = 0; day < 9; day++) {
            int quota = Math.max(1, 8 - day);
            E.due("day " + day + ": call(0, 20)", x.call(0, 20), quota);
            E.due("day " + day + ": call(0, 1)", x.call(0, 1), 0);
            if (day < 8) {
                x.pass(24);
            }
        }
        E.due("not served", x.many(8), 9 * 21 - (8 + 7 + 6 + 5 + 4 + 3 + 2 + 1 + 1));
    }

    private static void quotaByHourClientAndVersion() {
        ServiceApiary x = small();
        x.client(1, 0, 0, 1);
        x.call(0, 5);
        x.retire(0, 0, 9);
        E.due("calls ahead of the retirement count", x.call(0, 5), 3);
        E.due("another client has its own", x.call(1, 9), 8);
        x.pass(1);
        E.due("the next hour", x.call(0, 9), 8);
        x.again(0, 1);
        E.due("another version is open", x.call(0, 20), 20);
        x.recall(0, 0);
        x.again(0, 0);
        x.retire(0, 0, 9);
        E.due("what was served in this hour counts still", x.call(0, 1), 0);
        x.recall(0, 0);
        E.due("open again", x.call(0, 4), 4);
        x.retire(0, 0, 9);
        E.due("more than the quota was served", x.call(0, 1), 0);
        x.pass(1);
        E.due("the hour behind it", x.call(0, 20), 8);
    }

    private static void callsOfWhatIsGone() {
        ServiceApiary x = small();
        x.retire(0, 0, 1);
        x.pass(24);
        E.due("without a route", x.call(0, 3), 0);
        E.due("not served", x.many(8), 3);
        E.due("not served, of the version", x.ofVersion(0, 0, 9), 3);
        E.due("not served, of the client", x.ofClient(0, 5), 3);
        x.adapter(0, 0, 1, 0, 0);
        E.due("with a route, and no quota", x.call(0, 20), 20);
        E.due("by a route", x.many(9), 20);
        E.due("not served then", x.many(8), 3);
        E.due("calls of the gone version", x.ofVersion(0, 0, 8), 23);
        E.due("calls of the other one", x.ofVersion(0, 1, 8), 0);
        E.due("callers of the gone version", x.ofVersion(0, 0, 5), 1);
        x.retire(0, 1, 1);
        E.due("where it leads is not open any more", x.call(0, 1), 0);
        E.due("nobody is asked for what is gone", x.asked(0, 0, 0), 0);
    }

    private static void callsAsk() {
        ServiceApiary x = small();
        x.client(3, 0, 0, 1);
        x.retire(0, 0, 9);
        E.due("asked(3, 0, 0)", x.asked(3, 0, 0), 0);
        x.pass(24);
        E.due("browned out", x.call(1, 1), 0);
        E.due("asked all the same", x.asked(3, 0, 0), 1);
        E.due("the other owner was not", x.asked(0, 0, 0), 0);
        x.pass(71);
        x.call(1, 1);
        E.due("not asked anew, 71 hours ago", x.asked(3, 0, 0), 1);
        x.pass(1);
        E.due("72 hours ago", x.asked(3, 0, 0), 2);
    }

    private static void pass() {
        ServiceApiary x = small();
        E.due("pass(1)", x.pass(1), 0);
        E.due("pass(100)", x.pass(100), 0);
        E.due("many(10)", x.many(10), 101);
        x.retire(0, 0, 1);
        E.due("pass(23)", x.pass(23), 0);
        E.due("retiring", x.many(3), 1);
        E.due("pass(1) to its end", x.pass(1), 1);
        E.due("gone", x.many(4), 1);
        E.due("retiring none", x.many(3), 0);
        E.due("pass(100) behind it", x.pass(100), 0);
    }

    private static void passPutsOff() {
        ServiceApiary x = small();
        x.call(0, 1);
        x.retire(0, 0, 1);
        x.pass(23);
        x.call(0, 1);
        E.due("put off at 24", x.pass(1), 0);
        E.due("end at 48", x.ofVersion(0, 0, 4), 48);
        x.pass(1);
        E.due("hinders at 25", x.ofVersion(0, 0, 6), 1);
        E.due("silent from 23 to 47", x.pass(22), 0);
        E.due("hinders not at 47", x.ofVersion(0, 0, 6), 0);
        E.due("gone at 48 only", x.pass(1), 1);
        E.due("put off once", x.ofVersion(0, 0, 7), 1);

        ServiceApiary y = small();
        y.call(0, 1);
        y.retire(0, 0, 1);
        for (int k = 0; k < 71; k++) {
            E.due("hour " + k + " of 71", y.pass(1), 0);
            y.call(0, 1);
        }
        E.due("put off twice", y.ofVersion(0, 0, 7), 2);
        E.due("hinders, asked 71 hours ago", y.ofVersion(0, 0, 6), 1);
        E.due("its silence counts at 72", y.pass(1), 1);

        ServiceApiary z = small();
        z.call(0, 1);
        z.adapter(0, 0, 1, 0, 0);
        z.retire(0, 0, 1);
        z.pass(20);
        z.call(0, 1);
        E.due("with a route it does not hinder", z.ofVersion(0, 0, 6), 0);
        E.due("gone at 24", z.pass(4), 1);
    }

    private static void passManyAtOnce() {
        ServiceApiary x = new ServiceApiary();
        for (int f = 0; f < 4; f++) {
            x.open();
            for (int v = 0; v < 6; v++) {
                x.publish(f, 1, 0);
            }
        }
        for (int f = 0; f < 4; f++) {
            for (int v = 0; v < 6; v++) {
                x.retire(f, v, 1 + (f + v) % 2);
            }
        }
        E.due("pass(23)", x.pass(23), 0);
        E.due("pass(100)", x.pass(100), 24);
        E.due("gone", x.many(4), 24);
        E.due("the later ends", x.ofVersion(3, 0, 4), 48);
    }

    private static void passRefuses() {
        ServiceApiary x = small();
        E.badArgument(x, "pass(0)", () -> x.pass(0));
        E.badArgument(x, "pass(-1)", () -> x.pass(-1));
        E.badArgument(x, "pass(101)", () -> x.pass(101));
        E.due("many(10)", x.many(10), 0);
    }

    private static void lastCall() {
        ServiceApiary x = small();
        x.open();
        x.publish(1, 1, 0);
        x.client(1, 1, 0, 0);
        E.due("never", x.lastCall(0, 0), -1);
        x.call(0, 1);
        E.due("now", x.lastCall(0, 0), 0);
        E.due("another version", x.lastCall(0, 1), -1);
        E.due("another client", x.lastCall(1, 0), -1);
        x.pass(100);
        E.due("100 hours ago", x.lastCall(0, 0), 100);
        x.again(0, 1);
        x.call(0, 1);
        x.pass(2);
        E.due("generated for another by now", x.lastCall(0, 0), 102);
        E.due("that other one", x.lastCall(0, 1), 2);
        x.retire(0, 1, 1);
        x.pass(24);
        x.call(0, 1);
        E.due("a call that is not served", x.lastCall(0, 1), 0);
        E.outOfBounds(x, "lastCall(-1, 0)", () -> x.lastCall(-1, 0));
        E.outOfBounds(x, "lastCall(2, 0)", () -> x.lastCall(2, 0));
        E.outOfBounds(x, "lastCall(0, 2)", () -> x.lastCall(0, 2));
        E.outOfBounds(x, "lastCall(0, -1)", () -> x.lastCall(0, -1));
        E.outOfBounds(x, "lastCall(1, 1)", () -> x.lastCall(1, 1));
    }
}
