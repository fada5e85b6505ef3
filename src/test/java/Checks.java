import java.util.Objects;
import java.util.function.Supplier;

/** What the tests share: counts what is wrong, and prints it. */
final class Checks {
    private int wrong = 0;
    private int made = 0;

    /** The answer is this one: a number (an int or a long), a truth, or a text. */
    void due(String what, Object got, Object want) {
        made++;
        if (!Objects.equals(plain(got), plain(want))) {
            fail(what + " answered \"" + got + "\", due is \"" + want + "\"");
        }
    }

    private static Object plain(Object answer) {
        return answer instanceof Integer number ? Long.valueOf(number) : answer;
    }

    /** The call throws just IndexOutOfBoundsException, and neither changes nor counts anything. */
    void dueIndex(Pebblegate x, String what, Supplier<Object> call) {
        dueThrow(x, what, IndexOutOfBoundsException.class, call);
    }

    /** The call throws just IllegalArgumentException, and neither changes nor counts anything. */
    void dueArgument(Pebblegate x, String what, Supplier<Object> call) {
        dueThrow(x, what, IllegalArgumentException.class, call);
    }

    void dueThrow(Pebblegate x, String what, Class<?> want, Supplier<Object> call) {
        String state = Nets.state(x);
        String counts = Nets.counts(x);
        long digest = x.digest();
        Object got;
        try {
            got = "answered " + call.get();
        } catch (RuntimeException e) {
            got = e.getClass();
        }
        due(what + " throws", got, want);
        due(what + " changes nothing", Nets.state(x), state);
        due(what + " counts nothing", Nets.counts(x), counts);
        due(what + " leaves the digest", x.digest(), digest);
    }

    /** The act tells REFUSED, which is counted once; nothing else is other then. */
    void dueRefused(Pebblegate x, String what, Supplier<Object> act) {
        String state = Nets.state(x);
        String counts = Nets.counts(x.house(0), x.house(1) + 1, x.house(2));
        due(what, act.get(), -9);
        due(what + " changes nothing", Nets.state(x), state);
        due(what + " counts REFUSED alone", Nets.counts(x), counts);
    }

    /** The act answers this, and is counted as done, once. */
    void dueDone(Pebblegate x, String what, Supplier<Object> act, Object want) {
        String counts = Nets.counts(x.house(0) + 1, x.house(1), x.house(2));
        due(what, act.get(), want);
        due(what + " is counted as done", Nets.counts(x), counts);
    }

    /** What is asked answers this, changes nothing and counts nothing. */
    void dueAsked(Pebblegate x, String what, Supplier<Object> call, Object want) {
        String state = Nets.state(x);
        String counts = Nets.counts(x);
        due(what, call.get(), want);
        due(what + " changes nothing", Nets.state(x), state);
        due(what + " counts nothing", Nets.counts(x), counts);
    }

    void fail(String what) {
        wrong++;
        if (wrong <= 40) {
            System.out.println(what);
        }
    }

    boolean isWrong() {
        return wrong != 0;
    }

    void end() {
        System.out.println(made + " checks, " + wrong + " wrong");
        if (wrong != 0) {
            System.exit(1);
        }
    }
}
