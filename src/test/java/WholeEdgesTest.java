import java.math.BigInteger;
import java.util.ArrayList;
import java.util.List;

/**
 * The edges of the promises 38 to 41: what house() counts, that all is sound in NETS of each kind, and the
 * digest, which is found here with whole numbers of any size, of which the last 64 bits are taken.
 */
final class WholeEdgesTest {
    private static final Checks CHECKS = new Checks();
    private static final BigInteger WRAP = BigInteger.ONE.shiftLeft(64);

    public static void main(String[] args) {
        housesOfNewAndFull();
        refusedAreCounted();
        soundEverywhere();
        digestOfKnownNets();
        digestWrapsAround();
        digestKnowsEachPart();
        CHECKS.end();
    }

    private static List<Pebblegate> netsOfEachKind() {
        Pebblegate one = new Pebblegate();
        one.begin(1);
        Pebblegate many = Nets.net(8, new int[8][16], 99, 99, 99, 99, 99, 99, 99, 99);
        Pebblegate refused = Nets.full(99);
        refused.step();
        refused.go(3);
        refused.add(0, 1);
        refused.knock();
        refused.keep(3);
        Pebblegate none = Nets.full(0);
        none.turn();
        Pebblegate dead = Nets.net(2, new int[][] {{3, 0, 0, 0}}, 2, 99);
        return List.of(new Pebblegate(), one, Nets.stairs(0), Nets.stairs(15), Nets.stairs(16), Nets.stairs(19), Nets.stairs(20),
                Nets.stairs(99), Nets.wheel(), Nets.spring(), Nets.hill(99), Nets.full(1), many, refused, none, dead);
    }

    // ---- house, knock, isSound

    private static void housesOfNewAndFull() {
        Pebblegate x = new Pebblegate();
        String[] due = {"0", "0", "0", "4", "0", "0"};
        for (int what = 0; what < 6; what++) {
            int of = what;
            CHECKS.dueAsked(x, "house " + what + " of a new object", () -> String.valueOf(x.house(of)), due[what]);
        }
        Pebblegate full = Nets.full(99);
        // begin; then step, two arcs and set, 8 times.
        CHECKS.due("acts done", full.house(0), 33);
        CHECKS.due("PLACES, STEPS, MARKS", full.house(3) + " " + full.house(4) + " " + full.house(5), "8 8 792");
        full.keep(0);
        full.set(7, 0);
        CHECKS.due("MARKS of the present one alone", full.house(5), 693);
    }

    private static void refusedAreCounted() {
        Pebblegate x = Nets.full(99);
        CHECKS.dueRefused(x, "step", () -> x.step());
        Pebblegate y = Nets.full(99);
        int done = y.house(0);
        CHECKS.due("add, go, back, follow", y.add(7, 1) + " " + y.go(7) + " " + y.back(7) + " " + y.follow(0), "-9 -9 -9 -9");
        CHECKS.due("each one is counted", Nets.counts(y), Nets.counts(done, 4, 0));
        CHECKS.due("run is not REFUSED", y.run(20), 0);
        CHECKS.due("WIDE is not REFUSED", y.reached() + " " + y.nodes(), "-9 -9");
        CHECKS.due("run is done", Nets.counts(y), Nets.counts(done + 1, 4, 0));
    }

    private static void soundEverywhere() {
        for (Pebblegate x : netsOfEachKind()) {
            CHECKS.dueAsked(x, "isSound", () -> x.isSound(), true);
            x.run(20);
            CHECKS.due("isSound behind a run", x.isSound(), true);
        }
    }

    // ---- digest

    private static List<Integer> row(Pebblegate x) {
        List<Integer> row = new ArrayList<>();
        row.add(x.house(3));
        row.add(x.house(4));
        for (int p = 0; p < x.house(3); p++) {
            row.add(x.marks(p));
            for (int s = 0; s < x.house(4); s++) {
                row.add(x.ofArc(s, p, 0));
                row.add(x.ofArc(s, p, 1));
            }
        }
        for (int k = 0; k < 4; k++) {
            for (String marks : x.keptText(k).split(" ")) {
                row.add(Integer.valueOf(marks));
            }
        }
        row.addAll(List.of(x.going(), x.reached(), x.deads(), x.rings(), x.nodes(), x.manies(), x.weighings()));
        row.addAll(List.of(x.house(0), x.house(1), x.house(2), x.house(5), x.isSound() ? 1 : 0));
        return row;
    }

    private static BigInteger unwrapped(List<Integer> row) {
        BigInteger d = BigInteger.valueOf(8023);
        for (int v : row) {
            d = d.multiply(BigInteger.valueOf(31)).add(BigInteger.valueOf(v));
        }
        return d;
    }

    private static long wrapped(BigInteger d) {
        BigInteger rest = d.mod(WRAP);
        return (rest.testBit(63) ? rest.subtract(WRAP) : rest).longValueExact();
    }

    private static void digestOfKnownNets() {
        CHECKS.due("digest of a new object", new Pebblegate().digest(), 5981626611798330703L);
        CHECKS.due("digest of a ring", Nets.wheel().digest(), -4766612096915070213L);
        CHECKS.due("digest of a WIDE NET", Nets.stairs(99).digest(), 6145891593969493251L);
    }

    private static void digestWrapsAround() {
        boolean isBelow0 = false;
        boolean isAbove0 = false;
        for (Pebblegate x : netsOfEachKind()) {
            BigInteger d = unwrapped(row(x));
            CHECKS.due("64 bits are too few", d.bitLength() > 64, true);
            long digest = x.digest();
            CHECKS.due("digest", digest, wrapped(d));
            CHECKS.due("digest again", x.digest(), digest);
            isBelow0 |= digest < 0;
            isAbove0 |= digest > 0;
        }
        CHECKS.due("it wraps around to both sides", isBelow0 && isAbove0, true);
    }

    /** Each KEPT MARKING, and what was knocked, has its own place in it. */
    private static void digestKnowsEachPart() {
        Pebblegate x = Nets.wheel();
        for (int k = 0; k < 4; k++) {
            x.set(2, 2 + k);
            x.keep(k);
            CHECKS.due("digest behind keep", x.digest(), wrapped(unwrapped(row(x))));
        }
        x.knock();
        CHECKS.due("digest behind a knock", x.digest(), wrapped(unwrapped(row(x))));
        x.add(0, -9);
        CHECKS.due("digest behind what is REFUSED", x.digest(), wrapped(unwrapped(row(x))));
    }
}
