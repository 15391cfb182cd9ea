/** Promises 6 to 10: client, again, adapter, ofClient, routed. */
public final class ClientsTest {
    private static final Expect E = new Expect();

    public static void main(String[] args) {
        client();
        clientRefuses();
        again();
        againRefuses();
        adapter();
        ofClient();
        ofClientRefuses();
        bestRoute();
        routeOfThree();
        routeWithOneAdapterTwice();
        routeFollowsTheVersion();
        routedRefuses();
        E.end();
    }

    /** One interface with these versions, all that they have, none of it needed. */
    private static ServiceApiary withVersions(int... has) {
        ServiceApiary x = new ServiceApiary();
        x.open();
        for (int set : has) {
            x.publish(0, set, 0);
        }
        return x;
    }

    private static void client() {
        ServiceApiary x = withVersions(255, 3);
        x.open();
        x.publish(1, 12, 4);
        E.due("client(0, 0, 0, 255)", x.client(0, 0, 0, 255), 0);
        E.due("client(4, 1, 0, 4)", x.client(4, 1, 0, 4), 1);
        E.due("client(4, 1, 0, 12)", x.client(4, 1, 0, 12), 2);
        for (int k = 3; k < 10; k++) {
            E.due("client(1, 0, 1, 0)", x.client(1, 0, 1, 0), k);
        }
        E.due("many(5)", x.many(5), 10);
        E.due("ofVersion(0, 1, 10)", x.ofVersion(0, 1, 10), 7);
        E.badState(x, "eleventh client", () -> x.client(1, 0, 1, 0));
        E.badArgument(x, "eleventh client, of no owner", () -> x.client(5, 0, 1, 0));
    }

    private static void clientRefuses() {
        ServiceApiary x = withVersions(255);
        x.publish(0, 12, 4);
        x.publish(0, 3, 0);
        x.retire(0, 2, 1);
        E.outOfBounds(x, "client(0, -1, 0, 0)", () -> x.client(0, -1, 0, 0));
        E.outOfBounds(x, "client(0, 1, 0, 0)", () -> x.client(0, 1, 0, 0));
        E.outOfBounds(x, "client(0, 0, 3, 0)", () -> x.client(0, 0, 3, 0));
        E.outOfBounds(x, "client(0, 0, -1, 0)", () -> x.client(0, 0, -1, 0));
        E.outOfBounds(x, "client(5, 0, 3, 256)", () -> x.client(5, 0, 3, 256));
        E.badArgument(x, "client(-1, 0, 0, 0)", () -> x.client(-1, 0, 0, 0));
        E.badArgument(x, "client(5, 0, 0, 0)", () -> x.client(5, 0, 0, 0));
        E.badArgument(x, "client(0, 0, 0, -1)", () -> x.client(0, 0, 0, -1));
        E.badArgument(x, "client(0, 0, 0, 256)", () -> x.client(0, 0, 0, 256));
        E.badArgument(x, "client(0, 0, 1, 8), without what is needed", () -> x.client(0, 0, 1, 8));
        E.badArgument(x, "client(0, 0, 1, 5), with what it has not", () -> x.client(0, 0, 1, 5));
        E.badArgument(x, "client(0, 0, 2, 4), retiring", () -> x.client(0, 0, 2, 4));
        E.badState(x, "client(0, 0, 2, 1), retiring", () -> x.client(0, 0, 2, 1));
        x.pass(24);
        E.badState(x, "client(0, 0, 2, 1), gone", () -> x.client(0, 0, 2, 1));
        E.due("many(5)", x.many(5), 0);
    }

    private static void again() {
        ServiceApiary x = withVersions(15);
        x.publish(0, 51, 17);
        x.publish(0, 15, 1);
        x.client(0, 0, 0, 14);
        E.due("again(0, 0)", x.again(0, 0), 14);
        E.due("again(0, 1)", x.again(0, 1), 19);
        E.due("ofClient(0, 2)", x.ofClient(0, 2), 1);
        E.due("ofClient(0, 3)", x.ofClient(0, 3), 19);
        E.due("again(0, 1) for the same", x.again(0, 1), 19);
        E.due("again(0, 2)", x.again(0, 2), 3);
        x.call(0, 2);
        E.due("again(0, 0)", x.again(0, 0), 3);
        E.due("calls stay", x.ofClient(0, 4), 2);
        E.due("the call of version 2 stays", x.lastCall(0, 2), 0);
        E.due("version 0 was not called", x.lastCall(0, 0), -1);
    }

    private static void againRefuses() {
        ServiceApiary x = withVersions(15, 15, 15);
        x.open();
        x.publish(1, 15, 0);
        x.client(0, 0, 0, 1);
        x.client(0, 1, 0, 1);
        x.retire(0, 0, 1);
        x.retire(0, 1, 1);
        x.pass(24);
        x.retire(0, 2, 1);
        x.recall(0, 2);
        E.outOfBounds(x, "again(-1, 0)", () -> x.again(-1, 0));
        E.outOfBounds(x, "again(2, 0)", () -> x.again(2, 0));
        E.outOfBounds(x, "again(10, 0)", () -> x.again(10, 0));
        E.outOfBounds(x, "again(0, 3)", () -> x.again(0, 3));
        E.outOfBounds(x, "again(0, -1)", () -> x.again(0, -1));
        E.outOfBounds(x, "again(1, 1), a version of another interface", () -> x.again(1, 1));
        E.badState(x, "again(0, 0), gone", () -> x.again(0, 0));
        E.due("again(0, 2), recalled", x.again(0, 2), 1);
        x.retire(0, 2, 1);
        E.badState(x, "again(0, 2), its own, retiring", () -> x.again(0, 2));
    }

    private static void adapter() {
        ServiceApiary x = withVersions(255, 255);
        x.open();
        x.publish(1, 1, 0);
        E.outOfBounds(x, "adapter(-1, 0, 1, 0, 0)", () -> x.adapter(-1, 0, 1, 0, 0));
        E.outOfBounds(x, "adapter(2, 0, 1, 0, 0)", () -> x.adapter(2, 0, 1, 0, 0));
        E.outOfBounds(x, "adapter(0, 2, 1, 0, 0)", () -> x.adapter(0, 2, 1, 0, 0));
        E.outOfBounds(x, "adapter(0, 0, 2, 0, 0)", () -> x.adapter(0, 0, 2, 0, 0));
        E.outOfBounds(x, "adapter(0, 2, 2, 0, 0)", () -> x.adapter(0, 2, 2, 0, 0));
        E.outOfBounds(x, "adapter(0, -1, 0, 256, 0)", () -> x.adapter(0, -1, 0, 256, 0));
        E.badArgument(x, "adapter(0, 1, 1, 0, 0)", () -> x.adapter(0, 1, 1, 0, 0));
        E.badArgument(x, "adapter(0, 0, 1, -1, 0)", () -> x.adapter(0, 0, 1, -1, 0));
        E.badArgument(x, "adapter(0, 0, 1, 256, 0)", () -> x.adapter(0, 0, 1, 256, 0));
        E.badArgument(x, "adapter(0, 0, 1, 0, -1)", () -> x.adapter(0, 0, 1, 0, -1));
        E.badArgument(x, "adapter(0, 0, 1, 0, 256)", () -> x.adapter(0, 0, 1, 0, 256));
        x.retire(0, 1, 1);
        for (int k = 0; k < 10; k++) {
            E.due("adapter(0, 0, 1, 255, 255)", x.adapter(0, k % 2, 1 - k % 2, 255, 255), k);
            E.due("many(6)", x.many(6), k + 1);
        }
        E.badState(x, "eleventh adapter", () -> x.adapter(0, 0, 1, 0, 0));
        E.badArgument(x, "eleventh adapter, from and to the same", () -> x.adapter(0, 0, 0, 0, 0));
    }

    private static void ofClient() {
        ServiceApiary x = withVersions(1);
        x.open();
        x.publish(1, 7, 0);
        x.publish(1, 7, 1);
        x.client(3, 1, 1, 5);
        int[] fresh = {3, 1, 1, 5, 0, 0, -1, -1, -1};
        for (int what = 0; what < fresh.length; what++) {
            E.due("ofClient(0, " + what + ")", x.ofClient(0, what), fresh[what]);
        }
        x.retire(1, 1, 2);
        x.call(0, 10);
        x.adapter(1, 1, 0, 2, 4);
        int[] later = {3, 1, 1, 5, 10, 2, 1, 0, 3};
        for (int what = 0; what < later.length; what++) {
            E.due("later: ofClient(0, " + what + ")", x.ofClient(0, what), later[what]);
        }
        x.pass(48);
        E.due("call(0, 1), by the route", x.call(0, 1), 1);
        E.due("calls", x.ofClient(0, 4), 11);
        E.due("not served", x.ofClient(0, 5), 2);
    }

    private static void ofClientRefuses() {
        ServiceApiary x = withVersions(1);
        x.client(0, 0, 0, 0);
        E.outOfBounds(x, "ofClient(-1, 0)", () -> x.ofClient(-1, 0));
        E.outOfBounds(x, "ofClient(1, 0)", () -> x.ofClient(1, 0));
        E.outOfBounds(x, "ofClient(1, 9)", () -> x.ofClient(1, 9));
        E.outOfBounds(x, "ofClient(10, 0)", () -> x.ofClient(10, 0));
        E.badArgument(x, "ofClient(0, -1)", () -> x.ofClient(0, -1));
        E.badArgument(x, "ofClient(0, 9)", () -> x.ofClient(0, 9));
    }

    /** Fewest adapters first, then the smaller number at the first place that differs. */
    private static void bestRoute() {
        ServiceApiary x = withVersions(255, 15, 15, 3);
        x.client(0, 0, 0, 16);
        x.adapter(0, 0, 1, 0, 0);
        E.due("what it makes does not fit", x.ofClient(0, 6), -1);
        x.adapter(0, 0, 2, 1, 0);
        x.adapter(0, 2, 3, 0, 252);
        E.due("two adapters: length", x.ofClient(0, 6), 2);
        E.due("two adapters: leads to", x.ofClient(0, 7), 3);
        E.due("two adapters: makes", x.ofClient(0, 8), 1);
        E.due("two adapters: routed(0, 0)", x.routed(0, 0), 1);
        E.due("two adapters: routed(0, 1)", x.routed(0, 1), 2);
        x.adapter(0, 1, 3, 2, 16);
        E.due("a smaller first one: routed(0, 0)", x.routed(0, 0), 0);
        E.due("a smaller first one: routed(0, 1)", x.routed(0, 1), 3);
        E.due("a smaller first one: makes", x.ofClient(0, 8), 2);
        x.adapter(0, 1, 2, 4, 16);
        E.due("a greater second one changes nothing", x.ofClient(0, 8), 2);
        x.adapter(0, 0, 3, 3, 255);
        E.due("one adapter: length", x.ofClient(0, 6), 1);
        E.due("one adapter: routed(0, 0)", x.routed(0, 0), 5);
        E.due("one adapter: makes", x.ofClient(0, 8), 3);
        x.retire(0, 3, 1);
        E.due("where it leads is not open: routed(0, 0)", x.routed(0, 0), 0);
        E.due("where it leads is not open: routed(0, 1)", x.routed(0, 1), 4);
        E.due("where it leads is not open: makes", x.ofClient(0, 8), 4);
    }

    private static void routeOfThree() {
        ServiceApiary x = withVersions(1, 2, 4, 8, 16);
        x.client(0, 0, 0, 1);
        x.adapter(0, 0, 1, 32, 1);
        x.adapter(0, 1, 2, 64, 32);
        x.adapter(0, 2, 3, 128, 64);
        x.adapter(0, 3, 4, 16, 128);
        E.due("four would be needed", x.ofClient(0, 6), -1);
        E.outOfBounds(x, "routed(0, 0) without a route", () -> x.routed(0, 0));
        x.adapter(0, 2, 4, 16, 64);
        E.due("three", x.ofClient(0, 6), 3);
        E.due("leads to", x.ofClient(0, 7), 4);
        E.due("makes", x.ofClient(0, 8), 16);
        E.due("routed(0, 0)", x.routed(0, 0), 0);
        E.due("routed(0, 1)", x.routed(0, 1), 1);
        E.due("routed(0, 2)", x.routed(0, 2), 4);
        x.retire(0, 1, 1);
        x.retire(0, 2, 1);
        x.pass(24);
        E.due("those between may be gone", x.ofClient(0, 6), 3);
    }

    /** The way there, back, and there again, with the same adapter twice. */
    private static void routeWithOneAdapterTwice() {
        ServiceApiary x = new ServiceApiary();
        x.open();
        x.publish(0, 1, 0);
        x.publish(0, 6, 6);
        x.client(0, 0, 0, 1);
        x.adapter(0, 0, 1, 2, 1);
        x.adapter(0, 1, 0, 4, 2);
        E.due("back to its own does not fit", x.ofClient(0, 6), 3);
        E.due("routed(0, 0)", x.routed(0, 0), 0);
        E.due("routed(0, 1)", x.routed(0, 1), 1);
        E.due("routed(0, 2)", x.routed(0, 2), 0);
        E.due("makes", x.ofClient(0, 8), 6);
        x.adapter(0, 1, 0, 0, 2);
        E.due("back to its own fits", x.ofClient(0, 6), 2);
        E.due("leads to its own", x.ofClient(0, 7), 0);
        E.due("makes nothing", x.ofClient(0, 8), 0);
        E.due("routed(0, 1) then", x.routed(0, 1), 2);
        x.retire(0, 0, 9);
        E.due("its own is not open", x.ofClient(0, 6), 3);
    }

    private static void routeFollowsTheVersion() {
        ServiceApiary x = withVersions(1, 3, 3);
        x.open();
        x.publish(1, 1, 0);
        x.publish(1, 1, 0);
        x.client(0, 0, 0, 1);
        x.client(0, 1, 0, 1);
        x.adapter(0, 0, 1, 2, 0);
        x.adapter(0, 1, 2, 0, 1);
        E.due("from version 0", x.routed(0, 0), 0);
        E.due("makes", x.ofClient(0, 8), 3);
        E.due("another interface has no adapters", x.ofClient(1, 6), -1);
        x.again(0, 1);
        E.due("from version 1", x.routed(0, 0), 1);
        E.due("makes then", x.ofClient(0, 8), 0);
        x.again(0, 2);
        E.due("from version 2", x.ofClient(0, 6), -1);
    }

    private static void routedRefuses() {
        ServiceApiary x = withVersions(1, 1);
        x.client(0, 0, 0, 1);
        E.outOfBounds(x, "routed(0, 0) without a route", () -> x.routed(0, 0));
        x.adapter(0, 0, 1, 0, 0);
        E.due("routed(0, 0)", x.routed(0, 0), 0);
        E.outOfBounds(x, "routed(0, 1)", () -> x.routed(0, 1));
        E.outOfBounds(x, "routed(0, 3)", () -> x.routed(0, 3));
        E.outOfBounds(x, "routed(0, -1)", () -> x.routed(0, -1));
        E.outOfBounds(x, "routed(1, 0)", () -> x.routed(1, 0));
        E.outOfBounds(x, "routed(-1, 0)", () -> x.routed(-1, 0));
    }
}
