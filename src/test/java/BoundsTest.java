import java.util.List;
import java.util.function.Supplier;

/**
 * Each argument of each method: the last value that is taken and the first that is not, at both ends;
 * which exception goes first where several apply; and that a call that throws changes nothing and counts
 * nothing. All of it in NETS of several sizes, so that "there is no such STEP" is asked of each of them.
 * Each call is made on a new object.
 */
final class BoundsTest {
    private interface Call {
        Object make(Pebblegate x, int[] given);
    }

    /** Taken are low to high; none, if high is below low. */
    private record Argument(String name, int low, int high, Class<?> thrown) {
        boolean isTaken(int value) {
            return value >= low && value <= high;
        }

        int[] refusedValues() {
            return new int[] {low - 1, high + 1, Integer.MIN_VALUE, Integer.MAX_VALUE};
        }
    }

    private record Method(String name, Call call, Argument... arguments) {
    }

    private static final Checks CHECKS = new Checks();

    public static void main(String[] args) {
        inNet("a new object", 4, 0, Pebblegate::new);
        inNet("one PLACE, one STEP", 1, 1, () -> Nets.stairs(3));
        inNet("3 PLACES, 3 STEPS, a ring", 3, 3, Nets::wheel);
        inNet("a WIDE NET and TREE", 1, 1, () -> Nets.stairs(99));
        inNet("8 PLACES, 8 STEPS, no MARKS", 8, 8, () -> Nets.full(0));
        inNet("8 PLACES, 8 STEPS, 99 MARKS each", 8, 8, () -> Nets.full(99));
        inNet("fewer PLACES and STEPS than before", 2, 1, BoundsTest::fewerThanBefore);
        inNet("8 PLACES, no STEPS any more", 8, 0, BoundsTest::allStruck);
        CHECKS.end();
    }

    private static Pebblegate fewerThanBefore() {
        Pebblegate x = Nets.full(99);
        x.begin(2);
        x.step();
        x.step();
        x.strike(0);
        return x;
    }

    private static Pebblegate allStruck() {
        Pebblegate x = Nets.full(1);
        for (int s = 7; s >= 0; s--) {
            x.strike(s);
        }
        return x;
    }

    private static void inNet(String net, int places, int steps, Supplier<Pebblegate> maker) {
        for (Method method : methods(places, steps)) {
            Probe probe = new Probe(net, maker, method);
            for (int i = 0; i < method.arguments.length; i++) {
                probe.tryOne(i);
                for (int j = i + 1; j < method.arguments.length; j++) {
                    probe.tryTwo(i, j);
                }
            }
            probe.tryAll();
        }
    }

    private static List<Method> methods(int places, int steps) {
        Argument step = index("step", 0, steps - 1);
        Argument other = index("other", 0, steps - 1);
        Argument place = index("place", 0, places - 1);
        Argument k = index("k", 0, 3);
        Argument n = argument("n", 0, 15);
        Argument w = argument("w", 0, 7);
        return List.of(
                new Method("begin", (x, v) -> x.begin(v[0]), argument("places", 1, 8)),
                new Method("arc", (x, v) -> x.arc(v[0], v[1], v[2], v[3]), step, place, argument("take", 0, 3), argument("lay", 0, 3)),
                new Method("strike", (x, v) -> x.strike(v[0]), step),
                new Method("set", (x, v) -> x.set(v[0], v[1]), place, argument("marks", 0, 99)),
                new Method("add", (x, v) -> x.add(v[0], v[1]), place, argument("by", -99, 99)),
                new Method("go", (x, v) -> x.go(v[0]), step),
                new Method("back", (x, v) -> x.back(v[0]), step),
                new Method("run", (x, v) -> x.run(v[0]), argument("many", 0, 20)),
                new Method("keep", (x, v) -> x.keep(v[0]), k),
                new Method("recall", (x, v) -> x.recall(v[0]), k),
                new Method("follow", (x, v) -> x.follow(v[0]), k),
                new Method("ofArc", (x, v) -> x.ofArc(v[0], v[1], v[2]), step, place, argument("what", 0, 2)),
                new Method("marks", (x, v) -> x.marks(v[0]), place),
                new Method("keptText", (x, v) -> x.keptText(v[0]), k),
                new Method("can forward", (x, v) -> x.can(v[0], false), step),
                new Method("can back", (x, v) -> x.can(v[0], true), step),
                new Method("touches", (x, v) -> x.touches(v[0]), step),
                new Method("areApart", (x, v) -> x.areApart(v[0], v[1]), step, other),
                new Method("reachedText", (x, v) -> x.reachedText(v[0]), n),
                new Method("number", (x, v) -> x.number(v[0]), k),
                new Method("way", (x, v) -> x.way(v[0], v[1]), k, argument("how", 0, 1)),
                new Method("chances", (x, v) -> x.chances(v[0]), step),
                new Method("again", (x, v) -> x.again(v[0]), step),
                new Method("comesBack", (x, v) -> x.comesBack(v[0]), n),
                new Method("most", (x, v) -> x.most(v[0]), place),
                new Method("weighing", (x, v) -> x.weighing(v[0], v[1]), w, place),
                new Method("weight", (x, v) -> x.weight(v[0], v[1]), w, index("k or NONE", -1, 3)),
                new Method("house", (x, v) -> x.house(v[0]), argument("what", 0, 5)));
    }

    private static Argument index(String name, int low, int high) {
        return new Argument(name, low, high, IndexOutOfBoundsException.class);
    }

    private static Argument argument(String name, int low, int high) {
        return new Argument(name, low, high, IllegalArgumentException.class);
    }

    /** One method in one NET. */
    private record Probe(String net, Supplier<Pebblegate> maker, Method method) {
        void tryOne(int i) {
            Argument argument = method.arguments[i];
            for (int value : new int[] {argument.low, argument.high}) {
                int[] given = allLow();
                given[i] = value;
                make(given);
            }
            for (int value : argument.refusedValues()) {
                int[] given = allLow();
                given[i] = value;
                make(given);
                given = allHigh();
                given[i] = value;
                make(given);
            }
        }

        void tryTwo(int i, int j) {
            for (int value : method.arguments[i].refusedValues()) {
                for (int other : method.arguments[j].refusedValues()) {
                    int[] given = allLow();
                    given[i] = value;
                    given[j] = other;
                    make(given);
                }
            }
        }

        void tryAll() {
            int[] above = allHigh();
            int[] below = allLow();
            for (int i = 0; i < above.length; i++) {
                above[i]++;
                below[i]--;
            }
            make(above);
            make(below);
        }

        private int[] allLow() {
            int[] given = new int[method.arguments.length];
            for (int i = 0; i < given.length; i++) {
                given[i] = method.arguments[i].low;
            }
            return given;
        }

        private int[] allHigh() {
            int[] given = new int[method.arguments.length];
            for (int i = 0; i < given.length; i++) {
                given[i] = method.arguments[i].high;
            }
            return given;
        }

        private void make(int[] given) {
            Pebblegate x = maker.get();
            String call = net + ": " + describe(given);
            Class<?> thrown = dueException(given);
            if (thrown != null) {
                CHECKS.dueThrow(x, call, thrown, () -> method.call.make(x, given));
            } else {
                CHECKS.due(call, isAnswered(x, given), true);
            }
        }

        /** Each method names IndexOutOfBoundsException first. */
        private Class<?> dueException(int[] given) {
            Class<?> due = null;
            for (int i = 0; i < given.length; i++) {
                Argument argument = method.arguments[i];
                if (!argument.isTaken(given[i]) && (due == null || argument.thrown == IndexOutOfBoundsException.class)) {
                    due = argument.thrown;
                }
            }
            return due;
        }

        private boolean isAnswered(Pebblegate x, int[] given) {
            try {
                return method.call.make(x, given) != null;
            } catch (RuntimeException e) {
                return false;
            }
        }

        private String describe(int[] given) {
            StringBuilder text = new StringBuilder(method.name).append('(');
            for (int i = 0; i < given.length; i++) {
                text.append(i > 0 ? ", " : "").append(method.arguments[i].name).append(' ').append(given[i]);
            }
            return text.append(')').toString();
        }
    }
}
