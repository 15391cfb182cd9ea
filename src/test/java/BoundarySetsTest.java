import java.util.Set;
import java.util.TreeSet;

/**
 * Sets of FIELDS: all that can be of each field, and of each two of them, for FITS, COMPATIBLE, what an ADAPTER
 * makes, and what is USED when generated again. What is due is told with sets, not with bits.
 */
public final class BoundarySetsTest {
    private static final Expect E = new Expect();
    private static final int FIELDS = 8;

    public static void main(String[] args) {
        for (int f = 0; f < FIELDS; f++) {
            for (int g = f + 1; g < FIELDS; g++) {
                fitsAndCompatible(f, g);
            }
            adapterMakes(f);
            generatedAgain(f);
        }
        everySet();
        E.end();
    }

    private static Set<Integer> set(int number) {
        Set<Integer> s = new TreeSet<>();
        for (int k = 0; k < FIELDS; k++) {
            if (number / (int) Math.pow(2, k) % 2 == 1) {
                s.add(k);
            }
        }
        return s;
    }

    private static int number(Set<Integer> set) {
        int n = 0;
        for (int k : set) {
            n += (int) Math.pow(2, k);
        }
        return n;
    }

    /** 0: it does not have the field, 1: it has it, 2: it needs it, for two fields; all others it has or not. */
    private static int[] shape(int f, int g, int kinds, int others) {
        int[] kind = {kinds % 3, kinds / 3};
        int has = others;
        int needs = 0;
        int[] fields = {f, g};
        for (int k = 0; k < 2; k++) {
            int bit = 1 << fields[k];
            has = kind[k] == 0 ? has & ~bit : has | bit;
            needs = kind[k] == 2 ? needs | bit : needs;
        }
        return new int[] {has, needs};
    }

    private static boolean fits(int fields, int has, int needs) {
        return set(fields).containsAll(set(needs)) && set(has).containsAll(set(fields));
    }

    private static void fitsAndCompatible(int f, int g) {
        for (int others = 0; others <= 255; others += 255) {
            for (int one = 0; one < 9; one++) {
                int[] a = shape(f, g, one, others);
                ServiceApiary x = new ServiceApiary();
                x.open();
                x.publish(0, 255, 0);
                for (int other = 0; other < 9; other++) {
                    int[] b = shape(f, g, other, others);
                    x.open();
                    x.publish(x.many(0) - 1, b[0], b[1]);
                    int face = x.many(0) - 1;
                    boolean due = set(a[0]).containsAll(set(b[0])) && set(b[1]).containsAll(set(a[1]));
                    E.due("publish(" + a[0] + ", " + a[1] + ") behind publish(" + b[0] + ", " + b[1] + ")",
                        x.publish(face, a[0], a[1]), due ? 1 : 0);
                    E.due("isCompatible() of the same", x.isCompatible(face, 1, 0), due);
                    if (face == 3) {
                        x = new ServiceApiary();
                        x.open();
                        x.publish(0, 255, 0);
                    }
                }
                for (int uses : new int[] {0, 1 << f, 1 << g, 1 << f | 1 << g, 255, 255 & ~(1 << f), 255 & ~(1 << g)}) {
                    fits(uses, a[0], a[1], fits(uses, a[0], a[1]));
                }
            }
        }
    }

    private static void fits(int uses, int has, int needs, boolean due) {
        ServiceApiary x = new ServiceApiary();
        x.open();
        x.publish(0, 255, 0);
        x.publish(0, has, needs);
        x.client(0, 0, 0, uses);
        String which = uses + " and a version that has " + has + " and needs " + needs;
        E.due("wouldBreak() of " + which, x.wouldBreak(0, has, needs), due ? 0 : 1);
        E.dueText("client() with " + which, Run.outcome(x, "client", 1, 0, 1, uses), due ? "1" : "argument");
        x.adapter(0, 0, 1, 0, 0);
        E.due("the route of " + which, x.ofClient(0, 6), due ? 1 : -1);
        Set<Integer> then = set(uses);
        then.retainAll(set(has));
        then.addAll(set(needs));
        Set<Integer> changed = new TreeSet<>(then);
        changed.addAll(set(uses));
        changed.removeIf(k -> then.contains(k) && set(uses).contains(k));
        E.due("target() of " + which, x.target(0), changed.isEmpty() ? 1 : 0);
        E.due("again() of " + which, x.again(0, 1), number(then));
    }

    private static void adapterMakes(int f) {
        int bit = 1 << f;
        for (int kinds = 0; kinds < 8; kinds++) {
            int uses = (kinds & 1) == 0 ? 0 : bit;
            int adds = (kinds & 2) == 0 ? 0 : bit;
            int drops = (kinds & 4) == 0 ? 0 : bit;
            for (int others = 0; others <= 255; others += 255) {
                ServiceApiary x = new ServiceApiary();
                x.open();
                x.publish(0, 255, 0);
                x.publish(0, 255, 0);
                int used = others & ~bit | uses;
                x.client(0, 0, 0, used);
                x.adapter(0, 0, 1, adds, drops);
                Set<Integer> made = set(used);
                made.removeAll(set(drops));
                made.addAll(set(adds));
                E.due("what is made of " + used + ", adding " + adds + ", dropping " + drops, x.ofClient(0, 8), number(made));
                E.due("it uses " + used + " still", x.ofClient(0, 3), used);
            }
        }
    }

    private static void generatedAgain(int f) {
        int bit = 1 << f;
        for (int kind = 0; kind < 3; kind++) {
            for (int uses : new int[] {0, bit, 255, 255 & ~bit}) {
                ServiceApiary x = new ServiceApiary();
                x.open();
                x.publish(0, 255, 0);
                x.publish(0, kind == 0 ? 255 & ~bit : 255, kind == 2 ? bit : 0);
                x.client(0, 0, 0, uses);
                Set<Integer> due = set(uses);
                if (kind == 0) {
                    due.remove(f);
                } else if (kind == 2) {
                    due.add(f);
                }
                E.due("again() with " + uses + ", field " + f + " of kind " + kind, x.again(0, 1), number(due));
                E.due("it uses that then", x.ofClient(0, 3), number(due));
            }
        }
    }

    /** Each of the 256 sets as what a version has and needs, and a client uses. */
    private static void everySet() {
        for (int s = 0; s <= 255; s++) {
            ServiceApiary x = new ServiceApiary();
            x.open();
            E.due("publish(0, " + s + ", " + s + ")", x.publish(0, s, s), 0);
            E.due("publish(0, 255, " + s + ")", x.publish(0, 255, s), 1);
            E.due("publish(0, " + s + ", 0)", x.publish(0, s, 0), s == 255 ? 2 : 1);
            E.due("what it has", x.ofVersion(0, 0, 0), s);
            E.due("what it needs", x.ofVersion(0, 0, 1), s);
            E.due("client(0, 0, 0, " + s + ")", x.client(0, 0, 0, s), 0);
            E.dueText("one field more or less", Run.outcome(x, "client", 0, 0, 0, s ^ 16), "argument");
            E.due("what it uses", x.ofClient(0, 3), s);
            E.due("wouldBreak(0, " + s + ", " + s + ")", x.wouldBreak(0, s, s), 0);
            E.due("wouldBreak(0, 255, 0)", x.wouldBreak(0, 255, 0), 0);
            E.due("wouldBreak(0, 255, 255)", x.wouldBreak(0, 255, 255), s == 255 ? 0 : 1);
            E.due("wouldBreak(0, 0, 0)", x.wouldBreak(0, 0, 0), s == 0 ? 0 : 1);
        }
    }
}
