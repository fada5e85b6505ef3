import java.util.Map;
import java.util.TreeMap;
import java.util.function.Supplier;

/**
 * Runs of 512 calls on new objects, each answer (and each exception) held against the Model's. The
 * numbers come of a fixed row, so that every run is the same each time.
 */
final class ModelTest {
    private static final int RUNS = 1500;
    private static final int CALLS = 512;
    private static final int DENSE_NETS = 400;
    // A NET is built by fewer calls than these: begin, 8 STEPS with 4 arcs each, 3 MARKS.
    private static final int BUILDING = 50;
    private static final int[] ODD = {-2, -1, 8, 9, 16, 100, -100, Integer.MIN_VALUE, Integer.MAX_VALUE};

    private final Checks checks = new Checks();
    // How often each kind of answer was told, so that the runs are known to come everywhere.
    private final Map<String, Integer> seen = new TreeMap<>();
    private long row = 1;
    private Pebblegate x;
    private Model m;
    private int runNumber;
    private int made;

    public static void main(String[] args) {
        ModelTest test = new ModelTest();
        for (int r = 0; r < RUNS && !test.checks.isWrong(); r++) {
            test.runOnce(r);
        }
        for (int r = 0; r < DENSE_NETS && !test.checks.isWrong(); r++) {
            test.weighDense(r);
        }
        test.checkSeen();
        test.checks.end();
    }

    private int below(int end) {
        row = row * 6364136223846793005L + 1442695040888963407L;
        return (int) ((row >>> 33) % end);
    }

    private void runOnce(int r) {
        runNumber = r;
        made = 0;
        x = new Pebblegate();
        m = new Model();
        while (made < CALLS - BUILDING - 1) {
            build();
            int many = 20 + below(80);
            for (int i = 0; i < many && made < CALLS - 2; i++) {
                anyCall();
            }
        }
        both("digest()", x::digest, m::digest);
    }

    /** Nets in which each STEP touches each PLACE: their WEIGHINGS have the greatest numbers. */
    private void weighDense(int r) {
        runNumber = RUNS + r;
        made = 0;
        x = new Pebblegate();
        m = new Model();
        int places = r % 2 == 0 ? 8 : 2 + below(7);
        int steps = r % 2 == 0 ? 7 : 1 + below(8);
        both("begin(" + places + ")", () -> x.begin(places), () -> m.begin(places));
        for (int s = 0; s < steps; s++) {
            both("step()", x::step, m::step);
            for (int p = 0; p < places; p++) {
                boolean isTaking = below(2) == 0;
                int many = r % 4 == 0 ? 3 : below(4);
                callArc(s, p, isTaking ? many : 0, isTaking ? 0 : many);
            }
        }
        for (int p = 0; p < places; p++) {
            callSet(p, below(3) == 0 ? 99 : below(100));
        }
        both("weighings()", x::weighings, m::weighings);
        for (int i = 0; i < 8; i++) {
            int w = i;
            for (int j = 0; j < places; j++) {
                int p = j;
                both("weighing(" + w + ", " + p + ")", () -> x.weighing(w, p), () -> m.weighing(w, p));
            }
            both("weight(" + w + ", -1)", () -> x.weight(w, -1), () -> m.weight(w, -1));
        }
        both("digest()", x::digest, m::digest);
    }

    // ---- nets of several kinds

    private void build() {
        int places = 1 + below(8);
        both("begin(" + places + ")", () -> x.begin(places), () -> m.begin(places));
        int steps = below(4) == 0 ? below(9) : 1 + below(4);
        int kind = below(4);
        for (int s = 0; s < steps; s++) {
            both("step()", x::step, m::step);
            if (kind == 0) {
                shift(s, below(places), below(places));
            } else if (kind == 1) {
                shift(s, s % places, (s + 1) % places);
            } else {
                int arcs = 1 + below(kind == 2 ? 2 : 4);
                for (int i = 0; i < arcs; i++) {
                    callArc(s, below(places), below(4), below(4));
                }
            }
        }
        int marked = 1 + below(3);
        for (int i = 0; i < marked; i++) {
            int marks = below(12) == 0 ? 90 + below(10) : below(5);
            callSet(below(places), marks);
        }
    }

    /** A STEP that takes from one PLACE and lays at another one, mostly as many. */
    private void shift(int step, int from, int to) {
        int many = 1 + below(3);
        int other = below(4) == 0 ? 1 + below(3) : many;
        callArc(step, from, many, from == to ? other : 0);
        if (from != to) {
            callArc(step, to, 0, other);
        }
    }

    // ---- calls

    private int odd(int right) {
        return below(40) == 0 ? ODD[below(ODD.length)] : right;
    }

    private int aStep() {
        int steps = Math.max(1, m.house(4));
        return odd(below(12) == 0 ? steps : below(steps));
    }

    private int aPlace() {
        int places = m.house(3);
        return odd(below(20) == 0 ? places : below(places));
    }

    private int aKept() {
        return odd(below(25) == 0 ? 4 : below(4));
    }

    private void callArc(int s, int p, int take, int lay) {
        both("arc(" + s + ", " + p + ", " + take + ", " + lay + ")",
                () -> x.arc(s, p, take, lay), () -> m.arc(s, p, take, lay));
    }

    private void callSet(int p, int marks) {
        both("set(" + p + ", " + marks + ")", () -> x.set(p, marks), () -> m.set(p, marks));
    }

    private void anyCall() {
        if (below(3) == 0) {
            anyAct();
        } else {
            anyAsk();
        }
    }

    private void anyAct() {
        int s = aStep();
        int p = aPlace();
        int k = aKept();
        switch (below(16)) {
            case 0 -> both("step()", x::step, m::step);
            case 1 -> callArc(s, p, odd(below(4)), odd(below(4)));
            case 2 -> {
                if (below(3) == 0) {
                    both("strike(" + s + ")", () -> x.strike(s), () -> m.strike(s));
                } else {
                    int places = below(6) == 0 ? 1 + below(8) : odd(0);
                    both("begin(" + places + ")", () -> x.begin(places), () -> m.begin(places));
                }
            }
            case 3 -> both("turn()", x::turn, m::turn);
            case 4 -> callSet(p, odd(below(5)));
            case 5 -> {
                int by = odd(below(6) == 0 ? below(199) - 99 : below(5) - 2);
                both("add(" + p + ", " + by + ")", () -> x.add(p, by), () -> m.add(p, by));
            }
            case 6, 7, 8 -> both("go(" + s + ")", () -> x.go(s), () -> m.go(s));
            case 9 -> both("back(" + s + ")", () -> x.back(s), () -> m.back(s));
            case 10 -> {
                int many = odd(below(2) == 0 ? below(3) : below(22));
                both("run(" + many + ")", () -> x.run(many), () -> m.run(many));
            }
            case 11, 12 -> both("keep(" + k + ")", () -> x.keep(k), () -> m.keep(k));
            case 13 -> both("recall(" + k + ")", () -> x.recall(k), () -> m.recall(k));
            default -> both("follow(" + k + ")", () -> x.follow(k), () -> m.follow(k));
        }
    }

    private void anyAsk() {
        int s = aStep();
        int p = aPlace();
        int k = aKept();
        int n = odd(below(below(2) == 0 ? 4 : 17));
        int w = odd(below(below(4) == 0 ? 9 : 3));
        boolean isBack = below(2) == 0;
        switch (below(26)) {
            case 0 -> {
                int what = odd(below(4));
                both("ofArc(" + s + ", " + p + ", " + what + ")", () -> x.ofArc(s, p, what), () -> m.ofArc(s, p, what));
            }
            case 1 -> both("marks(" + p + ")", () -> x.marks(p), () -> m.marks(p));
            case 2 -> both("text()", x::text, m::text);
            case 3 -> both("keptText(" + k + ")", () -> x.keptText(k), () -> m.keptText(k));
            case 4 -> both("can(" + s + ", " + isBack + ")", () -> x.can(s, isBack), () -> m.can(s, isBack));
            case 5 -> both("going()", x::going, m::going);
            case 6 -> both("touches(" + s + ")", () -> x.touches(s), () -> m.touches(s));
            case 7 -> {
                int other = aStep();
                both("areApart(" + s + ", " + other + ")", () -> x.areApart(s, other), () -> m.areApart(s, other));
            }
            case 8 -> both("reached()", x::reached, m::reached);
            case 9 -> both("reachedText(" + n + ")", () -> x.reachedText(n), () -> m.reachedText(n));
            case 10 -> both("number(" + k + ")", () -> x.number(k), () -> m.number(k));
            case 11 -> both("way(" + k + ", 0)", () -> x.way(k, 0), () -> m.way(k, 0));
            case 12 -> both("way(" + k + ", 1)", () -> x.way(k, 1), () -> m.way(k, 1));
            case 13 -> {
                int how = odd(below(3));
                both("way(" + k + ", " + how + ")", () -> x.way(k, how), () -> m.way(k, how));
            }
            case 14 -> both("deads()", x::deads, m::deads);
            case 15 -> both("chances(" + s + ")", () -> x.chances(s), () -> m.chances(s));
            case 16 -> both("again(" + s + ")", () -> x.again(s), () -> m.again(s));
            case 17 -> both("rings()", x::rings, m::rings);
            case 18 -> both("comesBack(" + n + ")", () -> x.comesBack(n), () -> m.comesBack(n));
            case 19 -> both("nodes()", x::nodes, m::nodes);
            case 20 -> both("most(" + p + ")", () -> x.most(p), () -> m.most(p));
            case 21 -> both("manies()", x::manies, m::manies);
            case 22 -> both("weighings()", x::weighings, m::weighings);
            case 23 -> both("weighing(" + w + ", " + p + ")", () -> x.weighing(w, p), () -> m.weighing(w, p));
            case 24 -> {
                int which = below(3) == 0 ? -1 : k;
                both("weight(" + w + ", " + which + ")", () -> x.weight(w, which), () -> m.weight(w, which));
            }
            default -> theWhole();
        }
    }

    private void theWhole() {
        switch (below(4)) {
            case 0 -> {
                int what = odd(below(7));
                both("house(" + what + ")", () -> x.house(what), () -> m.house(what));
            }
            case 1 -> both("knock()", x::knock, m::knock);
            case 2 -> both("isSound()", x::isSound, m::isSound);
            default -> both("digest()", x::digest, m::digest);
        }
    }

    // ---- one call of both

    private void both(String call, Supplier<Object> ofClass, Supplier<Object> ofModel) {
        made++;
        String got = answer(ofClass);
        String want = answer(ofModel);
        checks.due("run " + runNumber + ", call " + made + ": " + call, got, want);
        boolean isNoteworthy = want.startsWith("throws") || want.startsWith("-") || want.equals("?") || want.equals("none");
        if (!call.startsWith("digest")) {
            seen.merge(call.substring(0, call.indexOf('(')) + " " + (isNoteworthy ? want : "ordinary"), 1, Integer::sum);
        }
        boolean isLeftAlone = want.startsWith("throws") || want.equals("-9");
        if (isLeftAlone && made < CALLS - 1) {
            made++;
            checks.due("run " + runNumber + ", behind " + call, x.digest(), m.digest());
        }
    }

    private static String answer(Supplier<Object> call) {
        try {
            return String.valueOf(call.get());
        } catch (RuntimeException e) {
            return "throws." + e.getClass().getSimpleName();
        }
    }

    private void checkSeen() {
        String[] due = {
            "step -9", "add -9", "go -9", "back -9", "follow -9", "follow ordinary", "reached -9", "reached ordinary",
            "reachedText ?", "number -9", "number -1", "number ordinary", "way ?", "way none", "way ordinary", "deads -9",
            "chances -9", "again -9", "rings -9", "comesBack -9", "comesBack -1", "comesBack ordinary", "nodes -9",
            "most -9", "most -2", "manies -9", "manies ordinary", "begin throws.IllegalArgumentException"
        };
        for (String kind : due) {
            checks.due("often enough: " + kind, seen.getOrDefault(kind, 0) >= 10, true);
        }
    }
}
