/** Promises 14 to 19: retire, answer, recall, asked, many, servedShare. */
public final class RetirementsTest {
    private static final Expect E = new Expect();

    public static void main(String[] args) {
        retire();
        retireAsksAllCallers();
        retireRefuses();
        answer();
        answerRefuses();
        recall();
        recallForgets();
        recallRefuses();
        asked();
        many();
        servedShare();
        E.end();
    }

    /** Two versions that have all and need nothing, and clients 0 to 5 of owners 0, 0, 1, 2, 3, 4 of version 0. */
    private static ServiceApiary busy() {
        ServiceApiary x = new ServiceApiary();
        x.open();
        x.publish(0, 255, 0);
        x.publish(0, 255, 0);
        x.client(0, 0, 0, 1);
        for (int owner = 0; owner < 5; owner++) {
            x.client(owner, 0, 0, 1);
        }
        return x;
    }

    private static void retire() {
        ServiceApiary x = busy();
        x.pass(7);
        E.due("retire(0, 0, 1) without callers", x.retire(0, 0, 1), 0);
        E.due("end", x.ofVersion(0, 0, 4), 31);
        E.due("retire(0, 1, 9)", x.retire(0, 1, 9), 0);
        E.due("end of nine days", x.ofVersion(0, 1, 4), 7 + 216);
        E.due("retiring", x.many(3), 2);
    }

    private static void retireAsksAllCallers() {
        ServiceApiary x = busy();
        x.call(5, 1);
        x.pass(1);
        x.call(0, 1);
        x.call(1, 1);
        x.call(2, 1);
        x.call(3, 1);
        x.again(3, 1);
        x.pass(23);
        E.due("owners 0, 1 and 2, each once", x.retire(0, 0, 2), 3);
        E.due("asked(0, 0, 0)", x.asked(0, 0, 0), 1);
        E.due("asked(1, 0, 0)", x.asked(1, 0, 0), 1);
        E.due("asked(2, 0, 0), generated for another by now", x.asked(2, 0, 0), 1);
        E.due("asked(3, 0, 0), who never called", x.asked(3, 0, 0), 0);
        E.due("asked(4, 0, 0), who called 24 hours ago", x.asked(4, 0, 0), 0);
        E.due("asked(0, 0, 1), another version", x.asked(0, 0, 1), 0);
        E.due("hinderers", x.ofVersion(0, 0, 6), 4);
    }

    private static void retireRefuses() {
        ServiceApiary x = busy();
        x.retire(0, 1, 1);
        E.outOfBounds(x, "retire(1, 0, 1)", () -> x.retire(1, 0, 1));
        E.outOfBounds(x, "retire(-1, 0, 1)", () -> x.retire(-1, 0, 1));
        E.outOfBounds(x, "retire(0, 2, 0)", () -> x.retire(0, 2, 0));
        E.outOfBounds(x, "retire(0, -1, 1)", () -> x.retire(0, -1, 1));
        E.badArgument(x, "retire(0, 0, 0)", () -> x.retire(0, 0, 0));
        E.badArgument(x, "retire(0, 0, 10)", () -> x.retire(0, 0, 10));
        E.badArgument(x, "retire(0, 1, 10), retiring", () -> x.retire(0, 1, 10));
        E.badState(x, "retire(0, 1, 1), retiring", () -> x.retire(0, 1, 1));
        x.pass(24);
        E.badState(x, "retire(0, 1, 1), gone", () -> x.retire(0, 1, 1));
        E.badArgument(x, "retire(0, 1, 0), gone", () -> x.retire(0, 1, 0));
    }

    private static void answer() {
        ServiceApiary x = busy();
        x.call(0, 1);
        x.call(1, 1);
        x.call(2, 1);
        x.retire(0, 0, 9);
        E.due("hinderers", x.ofVersion(0, 0, 6), 3);
        E.due("answer(0, 0, 0)", x.answer(0, 0, 0), false);
        E.due("hinderers then, both clients of owner 0 less", x.ofVersion(0, 0, 6), 1);
        E.due("asked(0, 0, 0)", x.asked(0, 0, 0), 3);
        E.due("asked(1, 0, 0)", x.asked(1, 0, 0), 1);
        E.due("answer(0, 0, 0) again", x.answer(0, 0, 0), true);
        x.pass(71);
        E.due("asked(1, 0, 0), 71 hours ago", x.asked(1, 0, 0), 1);
        x.pass(1);
        E.due("asked(1, 0, 0), 72 hours ago", x.asked(1, 0, 0), 2);
        E.due("answer(1, 0, 0), warned by its silence", x.answer(1, 0, 0), true);
        E.due("asked(1, 0, 0), answered", x.asked(1, 0, 0), 3);
    }

    private static void answerRefuses() {
        ServiceApiary x = busy();
        x.call(0, 1);
        E.badState(x, "answer(0, 0, 0), open", () -> x.answer(0, 0, 0));
        x.retire(0, 0, 1);
        E.outOfBounds(x, "answer(-1, 0, 0)", () -> x.answer(-1, 0, 0));
        E.outOfBounds(x, "answer(5, 0, 0)", () -> x.answer(5, 0, 0));
        E.outOfBounds(x, "answer(0, 1, 0)", () -> x.answer(0, 1, 0));
        E.outOfBounds(x, "answer(0, -1, 0)", () -> x.answer(0, -1, 0));
        E.outOfBounds(x, "answer(0, 0, 2)", () -> x.answer(0, 0, 2));
        E.outOfBounds(x, "answer(0, 0, -1)", () -> x.answer(0, 0, -1));
        E.outOfBounds(x, "answer(5, 0, 1), open", () -> x.answer(5, 0, 1));
        E.badState(x, "answer(1, 0, 0), not asked", () -> x.answer(1, 0, 0));
        E.badState(x, "answer(0, 0, 1), open", () -> x.answer(0, 0, 1));
        x.answer(0, 0, 0);
        E.due("gone", x.pass(24), 1);
        E.badState(x, "answer(0, 0, 0), gone", () -> x.answer(0, 0, 0));
    }

    private static void recall() {
        ServiceApiary x = busy();
        x.retire(0, 0, 3);
        E.due("recall(0, 0) at once", x.recall(0, 0), 72);
        x.call(0, 1);
        x.retire(0, 0, 1);
        x.pass(23);
        x.call(0, 1);
        E.due("recall an hour ahead of the end, of another object", recallAt23(), 1);
        x.pass(5);
        E.due("recall(0, 0), put off", x.recall(0, 0), 20);
        E.due("open", x.ofVersion(0, 0, 2), 0);
        E.due("served, as it is open", x.call(0, 20), 20);
        x.pass(100);
        E.due("stays open", x.ofVersion(0, 0, 2), 0);
    }

    private static int recallAt23() {
        ServiceApiary x = busy();
        x.retire(0, 0, 1);
        x.pass(23);
        return x.recall(0, 0);
    }

    private static void recallForgets() {
        ServiceApiary x = busy();
        x.call(0, 1);
        x.call(2, 1);
        x.retire(0, 0, 1);
        x.answer(0, 0, 0);
        x.pass(10);
        x.recall(0, 0);
        E.due("asked(0, 0, 0), recalled", x.asked(0, 0, 0), 0);
        E.due("asked(1, 0, 0), recalled", x.asked(1, 0, 0), 0);
        x.pass(5);
        E.due("retire(0, 0, 9) asks anew", x.retire(0, 0, 9), 2);
        E.due("asked(0, 0, 0) has not answered", x.asked(0, 0, 0), 1);
        E.due("began anew", x.ofVersion(0, 0, 3), 15);
        x.pass(71);
        E.due("asked(0, 0, 0), 71 hours ago", x.asked(0, 0, 0), 1);
        x.recall(0, 0);
        E.due("retire(0, 0, 1), all callers are long gone", x.retire(0, 0, 1), 0);
        E.due("asked(1, 0, 0) not this time", x.asked(1, 0, 0), 0);
    }

    private static void recallRefuses() {
        ServiceApiary x = busy();
        E.outOfBounds(x, "recall(1, 0)", () -> x.recall(1, 0));
        E.outOfBounds(x, "recall(-1, 0)", () -> x.recall(-1, 0));
        E.outOfBounds(x, "recall(0, 2)", () -> x.recall(0, 2));
        E.outOfBounds(x, "recall(0, -1)", () -> x.recall(0, -1));
        E.badState(x, "recall(0, 0), open", () -> x.recall(0, 0));
        x.retire(0, 0, 1);
        x.pass(24);
        E.badState(x, "recall(0, 0), gone", () -> x.recall(0, 0));
    }

    private static void asked() {
        ServiceApiary x = busy();
        x.call(0, 1);
        E.due("open", x.asked(0, 0, 0), 0);
        x.retire(0, 0, 4);
        x.pass(95);
        E.due("silent", x.asked(0, 0, 0), 2);
        x.call(2, 1);
        E.due("asked late", x.asked(1, 0, 0), 1);
        E.due("it goes on, as owner 1 hinders", x.pass(1), 0);
        x.answer(1, 0, 0);
        E.due("gone a day later", x.pass(24), 1);
        E.due("gone: the silent one", x.asked(0, 0, 0), 0);
        E.due("gone: the one that answered", x.asked(1, 0, 0), 0);
        E.outOfBounds(x, "asked(-1, 0, 0)", () -> x.asked(-1, 0, 0));
        E.outOfBounds(x, "asked(5, 0, 0)", () -> x.asked(5, 0, 0));
        E.outOfBounds(x, "asked(0, 1, 0)", () -> x.asked(0, 1, 0));
        E.outOfBounds(x, "asked(0, 0, 2)", () -> x.asked(0, 0, 2));
        E.outOfBounds(x, "asked(0, 0, -1)", () -> x.asked(0, 0, -1));
    }

    private static void many() {
        ServiceApiary x = busy();
        x.open();
        x.publish(1, 1, 0);
        x.publish(1, 1, 0);
        x.adapter(1, 0, 1, 0, 0);
        x.client(0, 1, 0, 1);
        x.retire(1, 0, 1);
        x.retire(0, 1, 2);
        x.call(6, 9);
        x.pass(25);
        x.call(6, 2);
        int[] due = {2, 4, 2, 1, 1, 7, 1, 11, 1, 2, 25};
        for (int what = 0; what < due.length; what++) {
            E.due("many(" + what + ")", x.many(what), due[what]);
        }
        E.badArgument(x, "many(-1)", () -> x.many(-1));
        E.badArgument(x, "many(11)", () -> x.many(11));
    }

    private static void servedShare() {
        ServiceApiary x = busy();
        E.dueShare("without calls", x.servedShare(), 1.0);
        x.call(0, 2);
        E.dueShare("all served", x.servedShare(), 1.0);
        x.retire(0, 0, 1);
        x.call(0, 7);
        E.dueShare("8 of 9", x.servedShare(), 8.0 / 9.0);
        x.answer(0, 0, 0);
        x.pass(24);
        x.call(0, 3);
        E.dueShare("8 of 12", x.servedShare(), 8.0 / 12.0);
        x.adapter(0, 0, 1, 0, 0);
        x.call(0, 1);
        E.dueShare("9 of 13, one by a route", x.servedShare(), 9.0 / 13.0);

        ServiceApiary y = busy();
        y.retire(0, 0, 1);
        y.pass(24);
        y.call(0, 5);
        E.dueShare("none served", y.servedShare(), 0.0);
    }
}
