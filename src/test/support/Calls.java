/** The calls of the public face by their names, with their answers as texts. */
final class Calls {
    private Calls() {
    }

    static String answer(ServiceApiary x, String name, int[] n) {
        switch (name) {
            case "isCompatible": return String.valueOf(x.isCompatible(n[0], n[1], n[2]));
            case "answer": return String.valueOf(x.answer(n[0], n[1], n[2]));
            case "servedShare": return String.valueOf(x.servedShare());
            case "digest": return String.valueOf(x.digest());
            default: return String.valueOf(number(x, name, n));
        }
    }

    private static int number(ServiceApiary x, String name, int[] n) {
        switch (name) {
            case "open": return x.open();
            case "publish": return x.publish(n[0], n[1], n[2]);
            case "ofVersion": return x.ofVersion(n[0], n[1], n[2]);
            case "client": return x.client(n[0], n[1], n[2], n[3]);
            case "again": return x.again(n[0], n[1]);
            case "adapter": return x.adapter(n[0], n[1], n[2], n[3], n[4]);
            case "ofClient": return x.ofClient(n[0], n[1]);
            case "routed": return x.routed(n[0], n[1]);
            case "call": return x.call(n[0], n[1]);
            case "pass": return x.pass(n[0]);
            case "lastCall": return x.lastCall(n[0], n[1]);
            case "retire": return x.retire(n[0], n[1], n[2]);
            case "recall": return x.recall(n[0], n[1]);
            case "asked": return x.asked(n[0], n[1], n[2]);
            case "many": return x.many(n[0]);
            case "wouldCome": return x.wouldCome(n[0], n[1]);
            case "goneIn": return x.goneIn(n[0], n[1]);
            case "wouldBreak": return x.wouldBreak(n[0], n[1], n[2]);
            case "target": return x.target(n[0]);
            case "goneBy": return x.goneBy(n[0], n[1], n[2]);
            default: throw new AssertionError("no such call: " + name);
        }
    }

    /** The same calls on the second telling of the document. */
    static String answer(PlainModel m, String name, int[] n) {
        switch (name) {
            case "isCompatible": return String.valueOf(m.isCompatible(n[0], n[1], n[2]) == 1);
            case "answer": return String.valueOf(m.answer(n[0], n[1], n[2]) == 1);
            case "servedShare": return String.valueOf(m.servedShare());
            case "digest": return String.valueOf(m.digest());
            default: return String.valueOf(number(m, name, n));
        }
    }

    private static int number(PlainModel m, String name, int[] n) {
        switch (name) {
            case "open": return m.open();
            case "publish": return m.publish(n[0], n[1], n[2]);
            case "ofVersion": return m.ofVersion(n[0], n[1], n[2]);
            case "client": return m.client(n[0], n[1], n[2], n[3]);
            case "again": return m.again(n[0], n[1]);
            case "adapter": return m.adapter(n[0], n[1], n[2], n[3], n[4]);
            case "ofClient": return m.ofClient(n[0], n[1]);
            case "routed": return m.routed(n[0], n[1]);
            case "call": return m.call(n[0], n[1]);
            case "pass": return m.pass(n[0]);
            case "lastCall": return m.lastCall(n[0], n[1]);
            case "retire": return m.retire(n[0], n[1], n[2]);
            case "recall": return m.recall(n[0], n[1]);
            case "asked": return m.asked(n[0], n[1], n[2]);
            case "many": return m.many(n[0]);
            case "wouldCome": return m.wouldCome(n[0], n[1]);
            case "goneIn": return m.goneIn(n[0], n[1]);
            case "wouldBreak": return m.wouldBreak(n[0], n[1], n[2]);
            case "target": return m.target(n[0]);
            case "goneBy": return m.goneBy(n[0], n[1], n[2]);
            default: throw new AssertionError("no such call: " + name);
        }
    }
}
