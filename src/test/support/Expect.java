/** Compares answers with what is due, prints those that differ, and ends the test. */
final class Expect {
    private int looked;
    private int wrong;

    void due(String call, long got, long want) {
        looked++;
        if (got != want) {
            wrong++;
            System.out.println(call + " answered " + got + ", due is " + want);
        }
    }

    void due(String call, boolean got, boolean want) {
        due(call, got ? 1 : 0, want ? 1 : 0);
    }

    void dueShare(String call, double got, double want) {
        looked++;
        if (Double.compare(got, want) != 0) {
            wrong++;
            System.out.println(call + " answered " + got + ", due is " + want);
        }
    }

    void dueText(String call, String got, String want) {
        looked++;
        if (!got.equals(want)) {
            wrong++;
            System.out.println(call + " answered " + got + ", due is " + want);
        }
    }

    /** The call is due to throw exactly this, and to change nothing. */
    void refused(ServiceApiary x, String call, Class<? extends RuntimeException> due, Runnable doing) {
        long before = x.digest();
        String got = "nothing";
        try {
            doing.run();
        } catch (RuntimeException e) {
            got = e.getClass().getName();
        }
        dueText(call + ", throwing", got, due.getName());
        due("digest() behind the refused " + call, x.digest(), before);
    }

    void outOfBounds(ServiceApiary x, String call, Runnable doing) {
        refused(x, call, IndexOutOfBoundsException.class, doing);
    }

    void badArgument(ServiceApiary x, String call, Runnable doing) {
        refused(x, call, IllegalArgumentException.class, doing);
    }

    void badState(ServiceApiary x, String call, Runnable doing) {
        refused(x, call, IllegalStateException.class, doing);
    }

    void end() {
        System.out.println(looked + " answers looked at, " + wrong + " not as due");
        if (wrong != 0) {
            System.exit(1);
        }
    }
}
