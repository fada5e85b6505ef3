import java.math.BigInteger;
import java.util.ArrayList;
import java.util.Arrays;
import java.util.Collections;
import java.util.LinkedHashMap;
import java.util.List;
import java.util.Map;

/**
 * A second program for the document, written for plainness and found by other ways than Pebblegate
 * where there are any: MARKINGS are lists, WAYS are carried along, rings are looked for by walking,
 * and WEIGHINGS come of fractions.
 */
final class Model {
    /** MANY, in the TREE. */
    private static final Integer MANY = null;

    private int places = 4;
    private final List<int[][]> steps = new ArrayList<>();
    private List<Integer> present = Collections.nCopies(4, 0);
    private final List<List<Integer>> kept = new ArrayList<>(Collections.nCopies(4, Collections.nCopies(4, 0)));
    private int done = 0;
    private int refused = 0;
    private int knocks = 0;

    // ---- acts

    int begin(int many) {
        argument(many >= 1 && many <= 8);
        int before = places;
        places = many;
        steps.clear();
        present = Collections.nCopies(many, 0);
        Collections.fill(kept, present);
        return did(before);
    }

    int step() {
        if (steps.size() == 8) {
            return refuse();
        }
        steps.add(new int[8][2]);
        return did(steps.size() - 1);
    }

    int arc(int step, int place, int take, int lay) {
        index(step, steps.size());
        index(place, places);
        argument(take >= 0 && take <= 3 && lay >= 0 && lay <= 3);
        int[] due = {take, lay};
        int[] before = steps.get(step)[place];
        steps.get(step)[place] = due;
        return did(Arrays.equals(before, due) ? 0 : 1);
    }

    int strike(int step) {
        index(step, steps.size());
        steps.remove(step);
        return did(steps.size());
    }

    int turn() {
        int others = 0;
        for (int s = 0; s < steps.size(); s++) {
            int[][] turned = turned(steps.get(s));
            if (!Arrays.deepEquals(turned, steps.get(s))) {
                others++;
            }
            steps.set(s, turned);
        }
        return did(others);
    }

    int set(int place, int marks) {
        index(place, places);
        argument(marks >= 0 && marks <= 99);
        int before = present.get(place);
        present = with(present, place, marks);
        return did(before);
    }

    int add(int place, int by) {
        index(place, places);
        argument(by >= -99 && by <= 99);
        int after = present.get(place) + by;
        if (after < 0 || after > 99) {
            return refuse();
        }
        present = with(present, place, after);
        return did(after);
    }

    int go(int step) {
        index(step, steps.size());
        return goBy(steps.get(step));
    }

    int back(int step) {
        index(step, steps.size());
        return goBy(turned(steps.get(step)));
    }

    private int goBy(int[][] step) {
        List<Integer> after = after(present, step);
        if (after == null || isOver(after)) {
            return refuse();
        }
        present = after;
        return did(total(present));
    }

    int run(int many) {
        argument(many >= 0 && many <= 20);
        int went = 0;
        boolean isOn = true;
        while (isOn && went < many) {
            isOn = false;
            for (int[][] step : steps) {
                List<Integer> after = after(present, step);
                if (after != null && !isOver(after)) {
                    present = after;
                    went++;
                    isOn = true;
                    break;
                }
            }
        }
        return did(went);
    }

    int keep(int k) {
        index(k, 4);
        boolean isOther = !kept.get(k).equals(present);
        kept.set(k, present);
        return did(isOther ? 1 : 0);
    }

    int recall(int k) {
        index(k, 4);
        boolean isOther = !kept.get(k).equals(present);
        present = kept.get(k);
        return did(isOther ? 1 : 0);
    }

    int follow(int k) {
        index(k, 4);
        Map<List<Integer>, List<Integer>> found = reachedFrom(present, steps);
        if (found == null || !found.containsKey(kept.get(k))) {
            return refuse();
        }
        List<Integer> way = found.get(kept.get(k));
        List<Integer> at = present;
        for (int s : way) {
            at = after(at, steps.get(s));
            if (isOver(at)) {
                return refuse();
            }
        }
        present = at;
        return did(way.size());
    }

    // ---- what is asked of the NET

    int ofArc(int step, int place, int what) {
        index(step, steps.size());
        index(place, places);
        argument(what >= 0 && what <= 2);
        int[] arc = steps.get(step)[place];
        return what == 2 ? arc[1] - arc[0] : arc[what];
    }

    int marks(int place) {
        index(place, places);
        return present.get(place);
    }

    String text() {
        return join(present);
    }

    String keptText(int k) {
        index(k, 4);
        return join(kept.get(k));
    }

    boolean can(int step, boolean isBack) {
        index(step, steps.size());
        int[][] arcs = steps.get(step);
        return after(present, isBack ? turned(arcs) : arcs) != null;
    }

    int going() {
        int all = 0;
        for (int s = 0; s < steps.size(); s++) {
            all += after(present, steps.get(s)) != null ? power(s) : 0;
        }
        return all;
    }

    int touches(int step) {
        index(step, steps.size());
        int all = 0;
        for (int p = 0; p < places; p++) {
            all += touches(step, p) ? power(p) : 0;
        }
        return all;
    }

    boolean areApart(int step, int other) {
        index(step, steps.size());
        index(other, steps.size());
        for (int p = 0; p < places; p++) {
            if (touches(step, p) && touches(other, p)) {
                return false;
            }
        }
        return true;
    }

    private boolean touches(int step, int place) {
        int[] arc = steps.get(step)[place];
        return arc[0] + arc[1] > 0;
    }

    // ---- what is asked of what is REACHED

    int reached() {
        List<List<Integer>> all = reachedList();
        return all == null ? -9 : all.size();
    }

    String reachedText(int n) {
        argument(n >= 0 && n <= 15);
        List<List<Integer>> all = reachedList();
        return all == null ? "?" : n < all.size() ? join(all.get(n)) : "";
    }

    int number(int k) {
        index(k, 4);
        List<List<Integer>> all = reachedList();
        return all == null ? -9 : all.indexOf(kept.get(k));
    }

    String way(int k, int how) {
        index(k, 4);
        argument(how == 0 || how == 1);
        List<Integer> goal = kept.get(k);
        if (how == 1) {
            return wayOfTwo(goal);
        }
        Map<List<Integer>, List<Integer>> found = reachedFrom(present, steps);
        if (found == null) {
            return "?";
        }
        return found.containsKey(goal) ? join(found.get(goal)) : "none";
    }

    /** All rows of no STEP, of one and of two, in their sequence. */
    private String wayOfTwo(List<Integer> goal) {
        List<List<Integer>> rows = new ArrayList<>();
        rows.add(List.of());
        for (int s = 0; s < steps.size(); s++) {
            rows.add(List.of(s));
        }
        for (int s = 0; s < steps.size(); s++) {
            for (int t = 0; t < steps.size(); t++) {
                rows.add(List.of(s, t));
            }
        }
        for (List<Integer> row : rows) {
            List<Integer> at = present;
            for (int s : row) {
                at = at == null ? null : after(at, steps.get(s));
            }
            if (goal.equals(at)) {
                return join(row);
            }
        }
        return "none";
    }

    int deads() {
        List<List<Integer>> all = reachedList();
        if (all == null) {
            return -9;
        }
        int sum = 0;
        for (int n = 0; n < all.size(); n++) {
            boolean isDead = true;
            for (int[][] step : steps) {
                isDead &= after(all.get(n), step) == null;
            }
            sum += isDead ? power(n) : 0;
        }
        return sum;
    }

    int chances(int step) {
        index(step, steps.size());
        List<List<Integer>> all = reachedList();
        if (all == null) {
            return -9;
        }
        int many = 0;
        for (List<Integer> marking : all) {
            many += after(marking, steps.get(step)) != null ? 1 : 0;
        }
        return many;
    }

    int again(int step) {
        index(step, steps.size());
        List<List<Integer>> all = reachedList();
        if (all == null) {
            return -9;
        }
        for (List<Integer> marking : all) {
            List<Integer> after = after(marking, steps.get(step));
            if (after != null && reachedFrom(after, steps).containsKey(marking)) {
                return 1;
            }
        }
        return 0;
    }

    int rings() {
        List<List<Integer>> all = reachedList();
        if (all == null) {
            return -9;
        }
        int sum = 0;
        for (int n = 0; n < all.size(); n++) {
            boolean isOnRing = false;
            for (int[][] step : steps) {
                List<Integer> after = after(all.get(n), step);
                isOnRing |= after != null && reachedFrom(after, steps).containsKey(all.get(n));
            }
            sum += isOnRing ? power(n) : 0;
        }
        return sum;
    }

    int comesBack(int n) {
        argument(n >= 0 && n <= 15);
        List<List<Integer>> all = reachedList();
        if (all == null) {
            return -9;
        }
        if (n >= all.size()) {
            return -1;
        }
        List<int[][]> turned = new ArrayList<>();
        for (int[][] step : steps) {
            turned.add(turned(step));
        }
        Map<List<Integer>, List<Integer>> found = reachedFrom(all.get(n), turned);
        return found == null ? -9 : found.containsKey(present) ? 1 : 0;
    }

    private List<List<Integer>> reachedList() {
        Map<List<Integer>, List<Integer>> found = reachedFrom(present, steps);
        return found == null ? null : new ArrayList<>(found.keySet());
    }

    /** Each MARKING with its WAY, by rising numbers; null if they are more than 16. */
    private Map<List<Integer>, List<Integer>> reachedFrom(List<Integer> start, List<int[][]> by) {
        Map<List<Integer>, List<Integer>> found = new LinkedHashMap<>();
        List<List<Integer>> waiting = new ArrayList<>();
        found.put(start, List.of());
        waiting.add(start);
        while (!waiting.isEmpty()) {
            List<Integer> from = waiting.remove(0);
            for (int s = 0; s < by.size(); s++) {
                List<Integer> after = after(from, by.get(s));
                if (after != null && !found.containsKey(after)) {
                    List<Integer> way = new ArrayList<>(found.get(from));
                    way.add(s);
                    found.put(after, way);
                    waiting.add(after);
                    if (found.size() > 16) {
                        return null;
                    }
                }
            }
        }
        return found;
    }

    // ---- the TREE

    private static final class Node {
        final Node above;
        final List<Integer> marking;

        Node(Node above, List<Integer> marking) {
            this.above = above;
            this.marking = marking;
        }
    }

    int nodes() {
        List<Node> tree = tree();
        return tree == null ? -9 : tree.size();
    }

    int most(int place) {
        index(place, places);
        List<Node> tree = tree();
        if (tree == null) {
            return -9;
        }
        int most = 0;
        for (Node node : tree) {
            if (node.marking.get(place) == MANY) {
                return -2;
            }
            most = Math.max(most, node.marking.get(place));
        }
        return most;
    }

    int manies() {
        int sum = 0;
        for (int p = 0; p < places; p++) {
            int most = most(p);
            if (most == -9) {
                return -9;
            }
            sum += most == -2 ? power(p) : 0;
        }
        return sum;
    }

    private List<Node> tree() {
        List<Node> tree = new ArrayList<>();
        tree.add(new Node(null, present));
        for (int n = 0; n < tree.size(); n++) {
            Node node = tree.get(n);
            if (isAsAbove(node)) {
                continue;
            }
            for (int[][] step : steps) {
                List<Integer> after = after(node.marking, step);
                if (after != null) {
                    for (Node up = node; up != null; up = up.above) {
                        after = raised(up.marking, after);
                    }
                    tree.add(new Node(node, after));
                    if (tree.size() > 20) {
                        return null;
                    }
                }
            }
        }
        return tree;
    }

    private static boolean isAsAbove(Node node) {
        for (Node up = node.above; up != null; up = up.above) {
            if (up.marking.equals(node.marking)) {
                return true;
            }
        }
        return false;
    }

    private static List<Integer> raised(List<Integer> old, List<Integer> fresh) {
        List<Integer> raised = new ArrayList<>();
        for (int p = 0; p < old.size(); p++) {
            if (isLess(fresh.get(p), old.get(p))) {
                return fresh;
            }
            raised.add(isLess(old.get(p), fresh.get(p)) ? MANY : fresh.get(p));
        }
        return raised;
    }

    private static boolean isLess(Integer one, Integer other) {
        return one != MANY && (other == MANY || one < other);
    }

    // ---- WEIGHINGS

    private static final class Fraction {
        static final Fraction ZERO = new Fraction(BigInteger.ZERO, BigInteger.ONE);
        final BigInteger above;
        final BigInteger below;

        Fraction(BigInteger above, BigInteger below) {
            BigInteger shared = above.gcd(below);
            if (below.signum() < 0) {
                shared = shared.negate();
            }
            this.above = above.divide(shared);
            this.below = below.divide(shared);
        }

        static Fraction of(int whole) {
            return new Fraction(BigInteger.valueOf(whole), BigInteger.ONE);
        }

        Fraction lessProduct(Fraction one, Fraction other) {
            BigInteger productBelow = one.below.multiply(other.below);
            return new Fraction(above.multiply(productBelow).subtract(one.above.multiply(other.above).multiply(below)),
                    below.multiply(productBelow));
        }

        Fraction by(Fraction divisor) {
            return new Fraction(above.multiply(divisor.below), below.multiply(divisor.above));
        }

        boolean isZero() {
            return above.signum() == 0;
        }
    }

    int weighings() {
        return told().size();
    }

    int weighing(int w, int place) {
        index(place, places);
        argument(w >= 0 && w <= 7);
        List<int[]> told = told();
        return w < told.size() ? told.get(w)[place] : 0;
    }

    int weight(int w, int k) {
        if (k != -1) {
            index(k, 4);
        }
        argument(w >= 0 && w <= 7);
        List<int[]> told = told();
        return w < told.size() ? weigh(told.get(w), k == -1 ? present : kept.get(k)) : 0;
    }

    private static int weigh(int[] weighing, List<Integer> marking) {
        int sum = 0;
        for (int p = 0; p < marking.size(); p++) {
            sum = Math.addExact(sum, Math.multiplyExact(weighing[p], marking.get(p)));
        }
        return sum;
    }

    private List<int[]> told() {
        List<int[]> told = new ArrayList<>();
        List<Integer> tied = new ArrayList<>();
        for (int p = 0; p < places; p++) {
            Fraction[] multiples = multiplesOf(tied, p);
            if (multiples == null) {
                tied.add(p);
                continue;
            }
            BigInteger least = BigInteger.ONE;
            for (Fraction m : multiples) {
                least = least.divide(least.gcd(m.below)).multiply(m.below);
            }
            int[] weighing = new int[places];
            weighing[p] = least.intValueExact();
            for (int t = 0; t < multiples.length; t++) {
                weighing[tied.get(t)] = least.multiply(multiples[t].above).divide(multiples[t].below).negate().intValueExact();
            }
            told.add(weighing);
        }
        return told;
    }

    /** Solves, STEP by STEP: the multiples of the CHANGES of the TIED give that of the PLACE; null if none do. */
    private Fraction[] multiplesOf(List<Integer> tied, int place) {
        int unknowns = tied.size();
        Fraction[][] rows = new Fraction[steps.size()][unknowns + 1];
        for (int s = 0; s < steps.size(); s++) {
            for (int t = 0; t < unknowns; t++) {
                rows[s][t] = Fraction.of(change(s, tied.get(t)));
            }
            rows[s][unknowns] = Fraction.of(change(s, place));
        }
        for (int t = 0; t < unknowns; t++) {
            int found = t;
            while (rows[found][t].isZero()) {
                found++;
            }
            Fraction[] pivot = rows[found];
            rows[found] = rows[t];
            Fraction head = pivot[t];
            for (int c = 0; c <= unknowns; c++) {
                pivot[c] = pivot[c].by(head);
            }
            rows[t] = pivot;
            for (int s = 0; s < rows.length; s++) {
                Fraction factor = rows[s][t];
                for (int c = 0; c <= unknowns && s != t; c++) {
                    rows[s][c] = rows[s][c].lessProduct(factor, pivot[c]);
                }
            }
        }
        for (int s = unknowns; s < rows.length; s++) {
            if (!rows[s][unknowns].isZero()) {
                return null;
            }
        }
        Fraction[] multiples = new Fraction[unknowns];
        for (int t = 0; t < unknowns; t++) {
            multiples[t] = rows[t][unknowns];
        }
        return multiples;
    }

    private int change(int step, int place) {
        return steps.get(step)[place][1] - steps.get(step)[place][0];
    }

    // ---- the whole

    int house(int what) {
        argument(what >= 0 && what <= 5);
        return new int[] {done, refused, knocks, places, steps.size(), total(present)}[what];
    }

    int knock() {
        return ++knocks;
    }

    boolean isSound() {
        return true;
    }

    long digest() {
        List<Integer> row = new ArrayList<>(List.of(places, steps.size()));
        for (int p = 0; p < places; p++) {
            row.add(present.get(p));
            for (int[][] step : steps) {
                row.add(step[p][0]);
                row.add(step[p][1]);
            }
        }
        for (List<Integer> marking : kept) {
            row.addAll(marking);
        }
        row.addAll(List.of(going(), reached(), deads(), rings(), nodes(), manies(), weighings()));
        row.addAll(List.of(done, refused, knocks, total(present), 1));
        long d = 8023;
        for (int v : row) {
            d = d * 31 + v;
        }
        return d;
    }

    // ---- small ones

    /** What comes of a MARKING by a STEP; null if it can not go. */
    private static List<Integer> after(List<Integer> marking, int[][] step) {
        List<Integer> after = new ArrayList<>();
        for (int p = 0; p < marking.size(); p++) {
            Integer many = marking.get(p);
            if (many == MANY) {
                after.add(MANY);
            } else if (many < step[p][0]) {
                return null;
            } else {
                after.add(many - step[p][0] + step[p][1]);
            }
        }
        return after;
    }

    private static int[][] turned(int[][] step) {
        int[][] turned = new int[step.length][];
        for (int p = 0; p < step.length; p++) {
            turned[p] = new int[] {step[p][1], step[p][0]};
        }
        return turned;
    }

    private static List<Integer> with(List<Integer> marking, int place, int marks) {
        List<Integer> other = new ArrayList<>(marking);
        other.set(place, marks);
        return other;
    }

    private static boolean isOver(List<Integer> marking) {
        return marking.stream().anyMatch(m -> m > 99);
    }

    private static int total(List<Integer> marking) {
        return marking.stream().mapToInt(m -> m).sum();
    }

    private static int power(int exponent) {
        return (int) Math.pow(2, exponent);
    }

    private static String join(List<Integer> numbers) {
        return String.join(" ", numbers.stream().map(String::valueOf).toList());
    }

    private int did(int answer) {
        done++;
        return answer;
    }

    private int refuse() {
        refused++;
        return -9;
    }

    private static void index(int index, int end) {
        if (index < 0 || index >= end) {
            throw new IndexOutOfBoundsException();
        }
    }

    private static void argument(boolean isRight) {
        if (!isRight) {
            throw new IllegalArgumentException();
        }
    }
}
