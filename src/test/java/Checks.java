/** What the tests share: counts what is wrong, and prints it. */
final class Checks {
    interface Call {
        void make();
    }

    private int wrong = 0;
    private int made = 0;

    void due(String what, long got, long want) {
        made++;
        if (got != want) {
            fail(what + " answered " + got + ", due is " + want);
        }
    }

    void due(String what, String got, String want) {
        made++;
        if (!want.equals(got)) {
            fail(what + " answered \"" + got + "\", due is \"" + want + "\"");
        }
    }

    void due(String what, boolean got, boolean want) {
        made++;
        if (got != want) {
            fail(what + " answered " + got + ", due is " + want);
        }
    }

    /** The call throws just this exception, and neither changes nor counts anything. */
    void dueIndex(Pebblegate x, String what, Call call) {
        dueThrow(x, what, IndexOutOfBoundsException.class, call);
    }

    /** The call throws just this exception, and neither changes nor counts anything. */
    void dueArgument(Pebblegate x, String what, Call call) {
        dueThrow(x, what, IllegalArgumentException.class, call);
    }

    private void dueThrow(Pebblegate x, String what, Class<?> want, Call call) {
        long before = x.digest();
        Class<?> got = null;
        try {
            call.make();
        } catch (RuntimeException e) {
            got = e.getClass();
        }
        made++;
        if (got != want) {
            fail(what + " threw " + got + ", due is " + want);
        }
        due(what + " leaves the digest", x.digest(), before);
    }

    /** An act that tells REFUSED: it is counted so, and nothing else is other then. */
    void dueRefused(Pebblegate x, String what, int got, String textBefore, int doneBefore, int refusedBefore) {
        due(what, got, -9);
        due(what + " leaves the MARKING", x.text(), textBefore);
        due(what + " leaves what was done", x.house(0), doneBefore);
        due(what + " counts REFUSED", x.house(1), refusedBefore + 1);
    }

    void fail(String what) {
        wrong++;
        if (wrong <= 40) {
            System.out.println(what);
        }
    }

    boolean isWrong() {
        return wrong != 0;
    }

    void end() {
        System.out.println(made + " checks, " + wrong + " wrong");
        if (wrong != 0) {
            System.exit(1);
        }
    }
}
