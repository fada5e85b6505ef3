/** NETS that several tests look at, and what can be seen of an object. */
final class Nets {
    private Nets() {
    }

    /** A STEP for each row: "take at 0, lay at 0, take at 1, lay at 1, ..". */
    static Pebblegate net(int places, int[][] steps, int... marks) {
        Pebblegate x = new Pebblegate();
        x.begin(places);
        for (int[] row : steps) {
            int s = x.step();
            for (int p = 0; p < places; p++) {
                if (row[2 * p] != 0 || row[2 * p + 1] != 0) {
                    x.arc(s, p, row[2 * p], row[2 * p + 1]);
                }
            }
        }
        for (int p = 0; p < marks.length; p++) {
            x.set(p, marks[p]);
        }
        return x;
    }

    /** One PLACE; STEP 0 takes 1 from it: marks + 1 MARKINGS in a row, and as many nodes. */
    static Pebblegate stairs(int marks) {
        return net(1, new int[][] {{1, 0}}, marks);
    }

    /** A mark goes round three PLACES by STEPS 0, 1, 2. */
    static Pebblegate wheel() {
        return net(3, new int[][] {{1, 0, 0, 1, 0, 0}, {0, 0, 1, 0, 0, 1}, {0, 1, 0, 0, 1, 0}}, 1, 0, 0);
    }

    /** STEP 0 lays a mark at PLACE 0 out of nothing. */
    static Pebblegate spring() {
        return net(2, new int[][] {{0, 1, 0, 0}}, 0, 0);
    }

    /** STEP 0 goes up by 3 at PLACE 0 and STEP 1 goes down by 3, once each. */
    static Pebblegate hill(int marks) {
        return net(3, new int[][] {{0, 3, 1, 0, 0, 1}, {3, 0, 0, 0, 1, 0}}, marks, 1, 0);
    }

    /** 8 PLACES, 8 STEPS; STEP s takes 1 at PLACE s, lays 2 at the next; so many MARKS at each PLACE. */
    static Pebblegate full(int marks) {
        Pebblegate x = new Pebblegate();
        x.begin(8);
        for (int s = 0; s < 8; s++) {
            x.step();
            x.arc(s, s, 1, 0);
            x.arc(s, (s + 1) % 8, 0, 2);
            x.set(s, marks);
        }
        return x;
    }

    /** The KEPT MARKING k becomes these MARKS; the present one stays. */
    static void keepAs(Pebblegate x, int k, int... marks) {
        int places = x.house(3);
        int[] before = new int[places];
        for (int p = 0; p < places; p++) {
            before[p] = x.marks(p);
            x.set(p, marks[p]);
        }
        x.keep(k);
        for (int p = 0; p < places; p++) {
            x.set(p, before[p]);
        }
    }

    /** All that an act could change, asked one by one, but for what is counted. */
    static String state(Pebblegate x) {
        int places = x.house(3);
        int steps = x.house(4);
        StringBuilder all = new StringBuilder();
        all.append(places).append(" PLACES, ").append(steps).append(" STEPS:");
        for (int s = 0; s < steps; s++) {
            for (int p = 0; p < places; p++) {
                all.append(' ').append(x.ofArc(s, p, 0)).append('/').append(x.ofArc(s, p, 1));
            }
            all.append(';');
        }
        all.append(" now ").append(x.text());
        for (int k = 0; k < 4; k++) {
            all.append(", kept ").append(x.keptText(k));
        }
        return all.toString();
    }

    /** What is counted: acts done, REFUSED, knocks. */
    static String counts(Pebblegate x) {
        return counts(x.house(0), x.house(1), x.house(2));
    }

    static String counts(int done, int refused, int knocks) {
        return done + " done, " + refused + " refused, " + knocks + " knocks";
    }
}
