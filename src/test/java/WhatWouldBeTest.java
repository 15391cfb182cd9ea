/** Promises 20 to 25: wouldCome, goneIn, wouldBreak, target, goneBy, digest. */
public final class WhatWouldBeTest {
    private static final Expect E = new Expect();

    public static void main(String[] args) {
        wouldComeOpenOrGone();
        wouldComeRetiring();
        wouldComeNow();
        wouldComeBehindThePutOff();
        wouldComeRefuses();
        goneIn();
        goneInWithCallersOfBothKinds();
        goneInRefuses();
        wouldBreak();
        target();
        targetRefuses();
        goneBy();
        goneByWithoutTheWayBack();
        goneByRefuses();
        digest();
        digestOfSeveralClients();
        nothingIsChanged();
        E.end();
    }

    /** Two versions that have all and need nothing, and clients 0 and 1 of owners 0 and 1 of version 0. */
    private static ServiceApiary small() {
        ServiceApiary x = new ServiceApiary();
        x.open();
        x.publish(0, 255, 0);
        x.publish(0, 255, 0);
        x.client(0, 0, 0, 1);
        x.client(1, 0, 0, 1);
        return x;
    }

    private static void wouldComeOpenOrGone() {
        ServiceApiary x = small();
        x.call(0, 20);
        E.due("open, now", x.wouldCome(0, 0), 0);
        E.due("open, in 100 hours", x.wouldCome(0, 100), 0);
        x.pass(24);
        x.retire(0, 0, 1);
        x.pass(24);
        E.due("gone without a route, now", x.wouldCome(0, 0), 4);
        E.due("gone without a route, in 100 hours", x.wouldCome(0, 100), 4);
        x.adapter(0, 0, 1, 0, 0);
        E.due("gone with a route, now", x.wouldCome(0, 0), 1);
        E.due("gone with a route, in 100 hours", x.wouldCome(0, 100), 1);
        x.retire(0, 1, 1);
        E.due("the route ends at what is retiring", x.wouldCome(0, 0), 4);
    }

    private static void wouldComeRetiring() {
        ServiceApiary x = small();
        x.retire(0, 0, 4);
        int[] due = new int[101];
        for (int hours = 0; hours <= 100; hours++) {
            due[hours] = hours >= 96 ? 4 : hours % 24 < 2 * (hours / 24) ? 2 : 0;
        }
        for (int hours = 0; hours <= 100; hours++) {
            E.due("wouldCome(0, " + hours + ")", x.wouldCome(0, hours), due[hours]);
        }
        x.pass(30);
        for (int hours = 30; hours <= 100; hours++) {
            E.due("wouldCome(0, " + hours + " - 30)", x.wouldCome(0, hours - 30), due[hours]);
        }
    }

    private static void wouldComeNow() {
        ServiceApiary x = small();
        x.retire(0, 0, 2);
        x.call(0, 7);
        E.due("one is left", x.wouldCome(0, 0), 0);
        x.call(0, 1);
        E.due("none is left", x.wouldCome(0, 0), 3);
        E.due("in the next hour", x.wouldCome(0, 1), 0);
        E.due("another client", x.wouldCome(1, 0), 0);
        x.pass(24);
        E.due("browned out", x.wouldCome(0, 0), 2);
        x.pass(2);
        x.call(0, 7);
        E.due("a quota of seven", x.wouldCome(0, 0), 3);
    }

    private static void wouldComeBehindThePutOff() {
        ServiceApiary x = small();
        x.call(1, 1);
        x.retire(0, 0, 1);
        x.pass(20);
        E.due("nobody calls any more: gone at 24", x.wouldCome(0, 4), 4);
        E.due("not yet at 23", x.wouldCome(0, 3), 0);
        x.call(1, 1);
        E.due("put off at 24, day 1 is browned out", x.wouldCome(0, 4), 2);
        E.due("at 26", x.wouldCome(0, 6), 0);
        E.due("at 47", x.wouldCome(0, 27), 0);
        E.due("gone at 48", x.wouldCome(0, 28), 4);
        E.due("gone at 120", x.wouldCome(0, 100), 4);
        x.answer(1, 0, 0);
        E.due("answered: gone at 24", x.wouldCome(0, 4), 4);
        x.adapter(0, 0, 1, 0, 0);
        E.due("gone at 24, with a route", x.wouldCome(0, 4), 1);
        E.due("not yet by the route at 23", x.wouldCome(0, 3), 0);
    }

    private static void wouldComeRefuses() {
        ServiceApiary x = small();
        E.outOfBounds(x, "wouldCome(-1, 0)", () -> x.wouldCome(-1, 0));
        E.outOfBounds(x, "wouldCome(2, 0)", () -> x.wouldCome(2, 0));
        E.outOfBounds(x, "wouldCome(2, 101)", () -> x.wouldCome(2, 101));
        E.badArgument(x, "wouldCome(0, -1)", () -> x.wouldCome(0, -1));
        E.badArgument(x, "wouldCome(0, 101)", () -> x.wouldCome(0, 101));
    }

    private static void goneIn() {
        ServiceApiary x = small();
        E.due("open", x.goneIn(0, 0), -1);
        x.call(0, 1);
        x.retire(0, 0, 1);
        E.due("callers till their silence counts", x.goneIn(0, 0), 72);
        x.pass(20);
        E.due("20 hours later", x.goneIn(0, 0), 52);
        x.answer(0, 0, 0);
        E.due("answered", x.goneIn(0, 0), 4);
        x.call(1, 1);
        E.due("another owner, asked at 20: warned at 92, gone at 96", x.goneIn(0, 0), 76);
        x.adapter(0, 0, 1, 0, 0);
        E.due("with a route", x.goneIn(0, 0), 4);
        x.retire(0, 1, 9);
        E.due("the route ends at what is retiring", x.goneIn(0, 0), 76);
        x.recall(0, 1);
        E.due("pass(4)", x.pass(4), 1);
        E.due("gone", x.goneIn(0, 0), 0);
    }

    private static void goneInWithCallersOfBothKinds() {
        ServiceApiary x = small();
        x.call(0, 1);
        x.retire(0, 0, 2);
        x.pass(40);
        E.due("a caller no more: it does not begin again", x.goneIn(0, 0), 8);
        x.call(1, 1);
        E.due("a caller goes on, asked at 40: 112, gone at 120", x.goneIn(0, 0), 80);
        x.again(1, 1);
        E.due("generated for another: it calls no more, gone at 72", x.goneIn(0, 0), 32);
        x.pass(24);
        E.due("put off at 48", x.ofVersion(0, 0, 7), 1);
        E.due("its last call is 24 hours old: gone at 72", x.goneIn(0, 0), 8);
        E.due("gone then", x.pass(8), 1);
    }

    private static void goneInRefuses() {
        ServiceApiary x = small();
        E.outOfBounds(x, "goneIn(1, 0)", () -> x.goneIn(1, 0));
        E.outOfBounds(x, "goneIn(-1, 0)", () -> x.goneIn(-1, 0));
        E.outOfBounds(x, "goneIn(0, 2)", () -> x.goneIn(0, 2));
        E.outOfBounds(x, "goneIn(0, -1)", () -> x.goneIn(0, -1));
    }

    private static void wouldBreak() {
        ServiceApiary x = new ServiceApiary();
        x.open();
        x.open();
        x.publish(0, 255, 0);
        x.publish(1, 255, 0);
        x.client(0, 0, 0, 3);
        x.client(0, 0, 0, 1);
        x.client(0, 0, 0, 0);
        x.client(0, 1, 0, 3);
        E.due("all fit", x.wouldBreak(0, 255, 0), 0);
        E.due("has less", x.wouldBreak(0, 1, 0), 1);
        E.due("has nothing", x.wouldBreak(0, 0, 0), 2);
        E.due("needs 1", x.wouldBreak(0, 255, 1), 1);
        E.due("needs 2", x.wouldBreak(0, 255, 2), 2);
        E.due("needs all", x.wouldBreak(0, 255, 255), 3);
        E.due("the other interface", x.wouldBreak(1, 1, 1), 1);
        x.again(0, 0);
        x.retire(0, 0, 1);
        x.pass(24);
        E.due("also clients of what is gone", x.wouldBreak(0, 1, 1), 2);
        E.outOfBounds(x, "wouldBreak(-1, 1, 0)", () -> x.wouldBreak(-1, 1, 0));
        E.outOfBounds(x, "wouldBreak(2, 256, 0)", () -> x.wouldBreak(2, 256, 0));
        E.badArgument(x, "wouldBreak(0, -1, 0)", () -> x.wouldBreak(0, -1, 0));
        E.badArgument(x, "wouldBreak(0, 256, 0)", () -> x.wouldBreak(0, 256, 0));
        E.badArgument(x, "wouldBreak(0, 1, -1)", () -> x.wouldBreak(0, 1, -1));
        E.badArgument(x, "wouldBreak(0, 1, 2)", () -> x.wouldBreak(0, 1, 2));
    }

    private static void target() {
        ServiceApiary x = new ServiceApiary();
        x.open();
        x.publish(0, 7, 0);
        x.publish(0, 15, 8);
        x.publish(0, 28, 8);
        x.publish(0, 6, 0);
        x.client(0, 0, 0, 7);
        E.due("its own, nothing changes", x.target(0), 0);
        x.retire(0, 0, 1);
        E.due("one more, or one less: the greater number", x.target(0), 3);
        x.retire(0, 3, 1);
        E.due("one more", x.target(0), 1);
        x.retire(0, 1, 1);
        E.due("three change", x.target(0), 2);
        x.retire(0, 2, 1);
        E.due("without an open one", x.target(0), -1);
        x.recall(0, 0);
        x.publish(0, 255, 0);
        E.due("a later one in which nothing changes", x.target(0), 4);
        x.open();
        x.publish(1, 7, 0);
        E.due("another interface does not count", x.target(0), 4);
        x.pass(24);
        E.due("gone ones do not count", x.target(0), 4);
        x.retire(0, 4, 1);
        E.due("its own again", x.target(0), 0);
    }

    private static void targetRefuses() {
        ServiceApiary x = small();
        E.outOfBounds(x, "target(-1)", () -> x.target(-1));
        E.outOfBounds(x, "target(2)", () -> x.target(2));
        E.outOfBounds(x, "target(10)", () -> x.target(10));
    }

    private static void goneBy() {
        ServiceApiary x = small();
        for (int days = 1; days <= 9; days++) {
            E.due("without callers: goneBy(0, 0, " + days + ")", x.goneBy(0, 0, days), 24 * days);
        }
        x.call(0, 1);
        E.due("with a caller: 1 day", x.goneBy(0, 0, 1), 72);
        E.due("with a caller: 2 days", x.goneBy(0, 0, 2), 72);
        E.due("with a caller: 3 days", x.goneBy(0, 0, 3), 72);
        E.due("with a caller: 4 days", x.goneBy(0, 0, 4), 96);
        x.again(0, 1);
        E.due("a caller that is generated for another by now", x.goneBy(0, 0, 1), 24);
        E.due("the other version was not called by it", x.goneBy(0, 1, 1), 24);
        x.again(0, 0);
        x.pass(24);
        E.due("a caller no more", x.goneBy(0, 0, 1), 24);
        x.call(0, 1);
        x.adapter(0, 0, 1, 0, 0);
        E.due("with a route", x.goneBy(0, 0, 1), 24);
        x.retire(0, 1, 1);
        E.due("with a route to what is retiring", x.goneBy(0, 0, 1), 72);
        x.retire(0, 0, 1);
        E.due("as goneIn() then", x.goneIn(0, 0), 72);
        x.answer(0, 0, 0);
        x.recall(0, 0);
        E.due("what was answered is forgotten", x.goneBy(0, 0, 1), 72);
    }

    /** A route from a version back to itself is none, once that is retired. */
    private static void goneByWithoutTheWayBack() {
        ServiceApiary x = new ServiceApiary();
        x.open();
        x.publish(0, 1, 0);
        x.publish(0, 6, 6);
        x.client(0, 0, 0, 1);
        x.call(0, 1);
        x.adapter(0, 0, 1, 0, 0);
        x.adapter(0, 1, 0, 0, 0);
        E.due("there and back again", x.ofClient(0, 7), 0);
        E.due("goneBy(0, 0, 1)", x.goneBy(0, 0, 1), 72);
        x.retire(0, 0, 1);
        E.due("goneIn(0, 0)", x.goneIn(0, 0), 72);
    }

    private static void goneByRefuses() {
        ServiceApiary x = small();
        x.retire(0, 1, 1);
        E.outOfBounds(x, "goneBy(1, 0, 1)", () -> x.goneBy(1, 0, 1));
        E.outOfBounds(x, "goneBy(-1, 0, 1)", () -> x.goneBy(-1, 0, 1));
        E.outOfBounds(x, "goneBy(0, 2, 0)", () -> x.goneBy(0, 2, 0));
        E.outOfBounds(x, "goneBy(0, -1, 1)", () -> x.goneBy(0, -1, 1));
        E.badArgument(x, "goneBy(0, 0, 0)", () -> x.goneBy(0, 0, 0));
        E.badArgument(x, "goneBy(0, 0, 10)", () -> x.goneBy(0, 0, 10));
        E.badArgument(x, "goneBy(0, 1, 10), retiring", () -> x.goneBy(0, 1, 10));
        E.badState(x, "goneBy(0, 1, 1), retiring", () -> x.goneBy(0, 1, 1));
        x.pass(24);
        E.badState(x, "goneBy(0, 1, 1), gone", () -> x.goneBy(0, 1, 1));
    }

    private static long folded(long d, long... numbers) {
        for (long v : numbers) {
            d = d * 31 + v;
        }
        return d;
    }

    private static void digest() {
        ServiceApiary x = new ServiceApiary();
        long nothing = folded(58106, 0, 0, 0, 0, 0, 0, 0, 0, 0, 0, 0);
        E.due("new: digest()", x.digest(), nothing);
        x.open();
        x.publish(0, 3, 1);
        x.publish(0, 3, 0);
        x.client(2, 0, 0, 3);
        x.adapter(0, 0, 1, 0, 1);
        x.call(0, 2);
        x.retire(0, 0, 1);
        x.pass(1);
        long d = folded(58106, 1, 2, 1, 1, 0, 1, 1, 2, 0, 0, 1);
        d = folded(d, 3, 1, 1, 0, 24, 1, 0, 0, 2, 0, 1);
        d = folded(d, 23);
        d = folded(d, 0, 0, 1, 0, 0);
        d = folded(d, 3, 0, 0, -1, -1, 0, 0, 0, 0, 0, 0);
        d = folded(d, -1);
        d = folded(d, 0, 0, 0, 0, 0);
        d = folded(d, 2, 0, 0, 3, 2, 0, 1, 1, 2);
        d = folded(d, 0);
        d = folded(d, 1, -1);
        d = folded(d, 0, 1, 1);
        E.due("digest()", x.digest(), d);
    }

    /** Clients with a quota that is used up, with routes of one and of two adapters, and without one. */
    private static void digestOfSeveralClients() {
        ServiceApiary x = new ServiceApiary();
        x.open();
        x.open();
        x.publish(0, 255, 0);
        x.publish(0, 255, 0);
        x.publish(1, 1, 0);
        x.client(1, 0, 0, 1);
        x.client(0, 0, 1, 2);
        x.client(2, 1, 0, 0);
        x.adapter(0, 1, 0, 0, 255);
        x.adapter(0, 0, 1, 4, 1);
        x.pass(3);
        x.retire(0, 0, 9);
        x.call(0, 10);
        E.due("digest(), the quota used up", x.digest(), dueThen(3, 3, 0));
        x.pass(17);
        E.due("digest(), an hour ahead of a brownout in 30 hours", x.digest(), dueThen(20, 0, 0));
        x.pass(1);
        E.due("digest(), the first hour of it", x.digest(), dueThen(21, 0, 2));
        x.pass(3);
        E.due("digest(), the last hour of it", x.digest(), dueThen(24, 0, 2));
        x.pass(1);
        E.due("digest(), an hour behind it", x.digest(), dueThen(25, 0, 0));
    }

    private static long dueThen(int hour, int comesNow, int comesIn30) {
        long d = folded(58106, 2, 3, 2, 1, 0, 3, 2, 10, 2, 0, hour);
        d = folded(d, 255, 0, 1, 3, 219, 1, 0, 0, 10, 2, 1);
        d = folded(d, 219 - hour);
        d = folded(d, 0, 1, 0, 0, 0);
        d = folded(d, 255, 0, 0, -1, -1, 0, 0, 0, 0, 0, 1);
        d = folded(d, -1);
        d = folded(d, 0, 0, 0, 0, 0);
        d = folded(d, 1, 0, 0, -1, -1, 0, 0, 0, 0, 0, 1);
        d = folded(d, -1);
        d = folded(d, 0, 0, 0, 0, 0);
        d = folded(d, 1, 0, 0, 1, 10, 2, 1, 1, 4);
        d = folded(d, 1);
        d = folded(d, hour - 3, -1);
        d = folded(d, comesNow, comesIn30, 1);
        d = folded(d, 0, 0, 1, 2, 0, 0, 2, 1, 4);
        d = folded(d, 0, 1);
        d = folded(d, -1, -1);
        d = folded(d, 0, 0, 1);
        d = folded(d, 2, 1, 0, 0, 0, 0, -1, -1, -1);
        d = folded(d, -1);
        return folded(d, 0, 0, 0);
    }

    private static void nothingIsChanged() {
        ServiceApiary x = small();
        x.call(0, 3);
        x.call(1, 3);
        x.retire(0, 1, 9);
        long before = x.digest();
        x.goneBy(0, 0, 1);
        x.goneBy(0, 0, 9);
        x.wouldCome(0, 100);
        x.goneIn(0, 1);
        x.wouldBreak(0, 1, 1);
        x.target(0);
        E.due("digest() behind what would be", x.digest(), before);
        E.due("asked(0, 0, 0)", x.asked(0, 0, 0), 0);
        E.due("open still", x.ofVersion(0, 0, 2), 0);
    }
}
