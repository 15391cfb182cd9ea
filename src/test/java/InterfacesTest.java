/** Promises 1 to 5: a new object, open, publish, ofVersion, isCompatible. */
public final class InterfacesTest {
    private static final Expect E = new Expect();

    public static void main(String[] args) {
        newObject();
        open();
        publish();
        publishRefuses();
        publishCountsGoneVersions();
        ofVersion();
        ofVersionThroughRetirement();
        ofVersionRefuses();
        isCompatible();
        E.end();
    }

    private static void newObject() {
        ServiceApiary x = new ServiceApiary();
        for (int what = 0; what <= 10; what++) {
            E.due("new: many(" + what + ")", x.many(what), 0);
        }
        E.dueShare("new: servedShare()", x.servedShare(), 1.0);
        E.outOfBounds(x, "new: goneIn(0, 0)", () -> x.goneIn(0, 0));
        E.outOfBounds(x, "new: target(0)", () -> x.target(0));
    }

    private static void open() {
        ServiceApiary x = new ServiceApiary();
        for (int k = 0; k < 4; k++) {
            E.due("open()", x.open(), k);
            E.due("many(0)", x.many(0), k + 1);
        }
        E.badState(x, "fifth open()", () -> x.open());
        E.due("many(0) behind it", x.many(0), 4);
        E.due("many(1) behind it", x.many(1), 0);
        E.outOfBounds(x, "ofVersion(3, 0, 0) without versions", () -> x.ofVersion(3, 0, 0));
    }

    private static void publish() {
        ServiceApiary x = new ServiceApiary();
        x.open();
        x.open();
        E.due("publish(0, 3, 1)", x.publish(0, 3, 1), 0);
        E.due("publish(0, 7, 1)", x.publish(0, 7, 1), 1);
        E.due("publish(0, 7, 0)", x.publish(0, 7, 0), 2);
        E.due("publish(0, 7, 2)", x.publish(0, 7, 2), 0);
        E.due("publish(0, 255, 0)", x.publish(0, 255, 0), 4);
        E.due("publish(0, 0, 0)", x.publish(0, 0, 0), 0);
        E.due("publish(1, 255, 255)", x.publish(1, 255, 255), 0);
        E.due("publish(1, 255, 255) again", x.publish(1, 255, 255), 1);
        E.due("many(1)", x.many(1), 8);
        E.due("many(2)", x.many(2), 8);
        E.due("ofVersion(1, 1, 2)", x.ofVersion(1, 1, 2), 0);
    }

    private static void publishRefuses() {
        ServiceApiary x = new ServiceApiary();
        x.open();
        E.outOfBounds(x, "publish(-1, 3, 1)", () -> x.publish(-1, 3, 1));
        E.outOfBounds(x, "publish(1, 3, 1)", () -> x.publish(1, 3, 1));
        E.outOfBounds(x, "publish(4, 3, 1)", () -> x.publish(4, 3, 1));
        E.outOfBounds(x, "publish(1, 256, 0)", () -> x.publish(1, 256, 0));
        E.outOfBounds(x, "publish(max, 3, 1)", () -> x.publish(Integer.MAX_VALUE, 3, 1));
        E.badArgument(x, "publish(0, -1, 0)", () -> x.publish(0, -1, 0));
        E.badArgument(x, "publish(0, 256, 0)", () -> x.publish(0, 256, 0));
        E.badArgument(x, "publish(0, 3, -1)", () -> x.publish(0, 3, -1));
        E.badArgument(x, "publish(0, 255, min)", () -> x.publish(0, 255, Integer.MIN_VALUE));
        E.badArgument(x, "publish(0, 3, 4)", () -> x.publish(0, 3, 4));
        E.badArgument(x, "publish(0, 255, 256)", () -> x.publish(0, 255, 256));
        E.badArgument(x, "publish(0, 0, 1)", () -> x.publish(0, 0, 1));
        for (int k = 0; k < 6; k++) {
            E.due("publish(0, 0, 0)", x.publish(0, 0, 0), k);
        }
        E.badState(x, "seventh publish(0, 0, 0)", () -> x.publish(0, 0, 0));
        E.badArgument(x, "seventh publish(0, 256, 0)", () -> x.publish(0, 256, 0));
    }

    private static void publishCountsGoneVersions() {
        ServiceApiary x = new ServiceApiary();
        x.open();
        x.publish(0, 1, 1);
        x.publish(0, 1, 0);
        x.retire(0, 0, 1);
        x.pass(24);
        x.retire(0, 1, 1);
        E.due("version 0 is gone", x.ofVersion(0, 0, 2), 2);
        E.due("version 1 is retiring", x.ofVersion(0, 1, 2), 1);
        E.due("publish(0, 3, 0)", x.publish(0, 3, 0), 2);
    }

    private static void ofVersion() {
        ServiceApiary x = new ServiceApiary();
        x.open();
        x.open();
        x.publish(1, 15, 5);
        int[] fresh = {15, 5, 0, -1, -1, 0, 0, 0, 0, 0, 0};
        for (int what = 0; what < fresh.length; what++) {
            E.due("ofVersion(1, 0, " + what + ")", x.ofVersion(1, 0, what), fresh[what]);
        }
        x.publish(0, 255, 0);
        x.client(0, 0, 0, 1);
        x.client(1, 1, 0, 5);
        x.client(1, 1, 0, 7);
        x.call(0, 4);
        E.due("calls of another interface", x.ofVersion(1, 0, 8), 0);
        E.due("callers of another interface", x.ofVersion(1, 0, 5), 0);
        x.call(1, 3);
        x.call(2, 2);
        x.call(2, 1);
        E.due("callers", x.ofVersion(1, 0, 5), 2);
        E.due("hinderers of an open one", x.ofVersion(1, 0, 6), 0);
        E.due("calls", x.ofVersion(1, 0, 8), 6);
        E.due("not served", x.ofVersion(1, 0, 9), 0);
        E.due("generated for it", x.ofVersion(1, 0, 10), 2);
        x.pass(23);
        E.due("callers after 23 hours", x.ofVersion(1, 0, 5), 2);
        x.pass(1);
        E.due("callers after 24 hours", x.ofVersion(1, 0, 5), 0);
        E.due("calls ever", x.ofVersion(1, 0, 8), 6);
    }

    private static void ofVersionThroughRetirement() {
        ServiceApiary x = new ServiceApiary();
        x.open();
        x.publish(0, 3, 1);
        x.publish(0, 3, 1);
        x.client(2, 0, 0, 3);
        x.pass(5);
        x.call(0, 1);
        x.retire(0, 0, 1);
        E.due("state", x.ofVersion(0, 0, 2), 1);
        E.due("began", x.ofVersion(0, 0, 3), 5);
        E.due("end", x.ofVersion(0, 0, 4), 29);
        E.due("hinderers", x.ofVersion(0, 0, 6), 1);
        x.pass(23);
        x.call(0, 9);
        E.due("not served over the quota", x.ofVersion(0, 0, 9), 1);
        x.pass(1);
        E.due("put off", x.ofVersion(0, 0, 7), 1);
        E.due("end, put off", x.ofVersion(0, 0, 4), 53);
        E.due("began stays", x.ofVersion(0, 0, 3), 5);
        x.recall(0, 0);
        E.due("began, recalled", x.ofVersion(0, 0, 3), -1);
        E.due("end, recalled", x.ofVersion(0, 0, 4), -1);
        E.due("put off ever, recalled", x.ofVersion(0, 0, 7), 1);
        E.due("hinderers, recalled", x.ofVersion(0, 0, 6), 0);
        x.again(0, 1);
        E.due("generated for the old one", x.ofVersion(0, 0, 10), 0);
        E.due("generated for the new one", x.ofVersion(0, 1, 10), 1);
        E.due("caller of the old one", x.ofVersion(0, 0, 5), 1);
        x.retire(0, 0, 1);
        E.due("pass(24)", x.pass(24), 1);
        E.due("gone", x.ofVersion(0, 0, 2), 2);
        E.due("began, gone", x.ofVersion(0, 0, 3), 29);
        E.due("end, gone", x.ofVersion(0, 0, 4), 53);
        E.due("hinderers, gone", x.ofVersion(0, 0, 6), 0);
        E.due("put off, gone", x.ofVersion(0, 0, 7), 1);
    }

    private static void ofVersionRefuses() {
        ServiceApiary x = new ServiceApiary();
        x.open();
        x.publish(0, 1, 0);
        E.outOfBounds(x, "ofVersion(-1, 0, 0)", () -> x.ofVersion(-1, 0, 0));
        E.outOfBounds(x, "ofVersion(1, 0, 0)", () -> x.ofVersion(1, 0, 0));
        E.outOfBounds(x, "ofVersion(0, -1, 0)", () -> x.ofVersion(0, -1, 0));
        E.outOfBounds(x, "ofVersion(0, 1, 0)", () -> x.ofVersion(0, 1, 0));
        E.outOfBounds(x, "ofVersion(0, 6, 0)", () -> x.ofVersion(0, 6, 0));
        E.outOfBounds(x, "ofVersion(0, 1, 11)", () -> x.ofVersion(0, 1, 11));
        E.badArgument(x, "ofVersion(0, 0, -1)", () -> x.ofVersion(0, 0, -1));
        E.badArgument(x, "ofVersion(0, 0, 11)", () -> x.ofVersion(0, 0, 11));
    }

    private static void isCompatible() {
        ServiceApiary x = new ServiceApiary();
        x.open();
        x.publish(0, 3, 1);
        x.publish(0, 7, 1);
        x.publish(0, 7, 5);
        x.publish(0, 7, 0);
        E.due("the same", x.isCompatible(0, 2, 2), true);
        E.due("has more", x.isCompatible(0, 1, 0), true);
        E.due("has less", x.isCompatible(0, 0, 1), false);
        E.due("needs more", x.isCompatible(0, 2, 1), false);
        E.due("needs less", x.isCompatible(0, 1, 2), true);
        E.due("needs nothing", x.isCompatible(0, 3, 0), true);
        E.due("has less, needs more", x.isCompatible(0, 0, 3), false);
        E.outOfBounds(x, "isCompatible(-1, 0, 0)", () -> x.isCompatible(-1, 0, 0));
        E.outOfBounds(x, "isCompatible(1, 0, 0)", () -> x.isCompatible(1, 0, 0));
        E.outOfBounds(x, "isCompatible(0, 4, 0)", () -> x.isCompatible(0, 4, 0));
        E.outOfBounds(x, "isCompatible(0, 0, 4)", () -> x.isCompatible(0, 0, 4));
        E.outOfBounds(x, "isCompatible(0, -1, 0)", () -> x.isCompatible(0, -1, 0));
        E.outOfBounds(x, "isCompatible(0, 0, -1)", () -> x.isCompatible(0, 0, -1));
    }
}
