/**
 * Nets of marks: places with marks, steps that take and lay some. The words in capitals are those of
 * the document (../shared/DOC.md), which says what each method promises.
 */
public final class Pebblegate {
    private static final int NONE = -1;
    private static final int REFUSED = -9;
    private static final int WIDE = -9;
    private static final int MANY_TOLD = -2;

    private static final int FIRST_PLACES = 4;
    private static final int MAX_PLACES = 8;
    private static final int MAX_STEPS = 8;
    private static final int MAX_ARC = 3;
    private static final int MAX_MARKS = 99;
    private static final int MAX_RUN = 20;
    private static final int KEPT_MARKINGS = 4;
    private static final int MAX_REACHED = 16;
    private static final int MAX_NODES = 20;
    private static final int DIGEST_START = 8023;

    // Far above what a TREE of 20 nodes can lay on 99 MARKS, so that no counted number is taken for it.
    private static final int MANY = 1000000000;

    // Euclid's rule on two longs ends after fewer than 93 divisions.
    private static final int MAX_DIVISIONS = 100;

    private final Net net = new Net();
    private final int[] present = new int[MAX_PLACES];
    private final int[][] kept = new int[KEPT_MARKINGS][MAX_PLACES];
    private final Reach reach = new Reach();
    private final Reach turnedReach = new Reach();
    private final Tree tree = new Tree();
    private final Scales scales = new Scales();
    private final int[] firstTrial = new int[MAX_PLACES];
    private final int[] secondTrial = new int[MAX_PLACES];
    private int done = 0;
    private int refused = 0;
    private int knocks = 0;

    public Pebblegate() {
    }

    // ---- acts

    public int begin(int places) throws IllegalArgumentException {
        if (places < 1 || places > MAX_PLACES) {
            throw new IllegalArgumentException("places is not 1 to 8");
        }
        int before = net.places;
        net.clear(places);
        wipe(present);
        for (int k = 0; k < KEPT_MARKINGS; k++) {
            wipe(kept[k]);
        }
        done++;
        return before;
    }

    public int step() {
        if (net.steps >= MAX_STEPS) {
            return refuse();
        }
        int made = net.steps;
        net.steps++;
        done++;
        return made;
    }

    public int arc(int step, int place, int take, int lay)
            throws IndexOutOfBoundsException, IllegalArgumentException {
        checkStep(step);
        checkPlace(place);
        if (take < 0 || take > MAX_ARC || lay < 0 || lay > MAX_ARC) {
            throw new IllegalArgumentException("take or lay is not 0 to 3");
        }
        boolean isOther = net.take[step][place] != take || net.lay[step][place] != lay;
        net.take[step][place] = take;
        net.lay[step][place] = lay;
        done++;
        return isOther ? 1 : 0;
    }

    public int strike(int step) throws IndexOutOfBoundsException {
        checkStep(step);
        net.remove(step);
        done++;
        return net.steps;
    }

    public int turn() {
        int others = 0;
        for (int s = 0; s < net.steps; s++) {
            if (net.exchange(s)) {
                others++;
            }
        }
        done++;
        return others;
    }

    public int set(int place, int marks) throws IndexOutOfBoundsException, IllegalArgumentException {
        checkPlace(place);
        if (marks < 0 || marks > MAX_MARKS) {
            throw new IllegalArgumentException("marks is not 0 to 99");
        }
        int before = present[place];
        present[place] = marks;
        done++;
        return before;
    }

    public int add(int place, int by) throws IndexOutOfBoundsException, IllegalArgumentException {
        checkPlace(place);
        if (by < -MAX_MARKS || by > MAX_MARKS) {
            throw new IllegalArgumentException("by is not -99 to 99");
        }
        int after = present[place] + by;
        if (after < 0 || after > MAX_MARKS) {
            return refuse();
        }
        present[place] = after;
        done++;
        return after;
    }

    public int go(int step) throws IndexOutOfBoundsException {
        checkStep(step);
        return goOrRefuse(step, false);
    }

    public int back(int step) throws IndexOutOfBoundsException {
        checkStep(step);
        return goOrRefuse(step, true);
    }

    public int run(int many) throws IllegalArgumentException {
        if (many < 0 || many > MAX_RUN) {
            throw new IllegalArgumentException("many is not 0 to 20");
        }
        int went = 0;
        while (went < many && goesFirst()) {
            went++;
        }
        done++;
        return went;
    }

    public int keep(int k) throws IndexOutOfBoundsException {
        checkKept(k);
        done++;
        return replace(kept[k], present);
    }

    public int recall(int k) throws IndexOutOfBoundsException {
        checkKept(k);
        done++;
        return replace(present, kept[k]);
    }

    public int follow(int k) throws IndexOutOfBoundsException {
        checkKept(k);
        exploreReach();
        int goal = reach.isWide ? NONE : reach.find(kept[k]);
        if (goal == NONE) {
            return refuse();
        }
        int length = reach.traceWay(goal);
        if (reach.isWayOver()) {
            return refuse();
        }
        copy(kept[k], present);
        done++;
        return length;
    }

    // ---- what is asked of the NET

    public int ofArc(int step, int place, int what)
            throws IndexOutOfBoundsException, IllegalArgumentException {
        checkStep(step);
        checkPlace(place);
        switch (what) {
            case 0:
                return net.take[step][place];
            case 1:
                return net.lay[step][place];
            case 2:
                return net.change(step, place);
            default:
                throw new IllegalArgumentException("what is not 0 to 2");
        }
    }

    public int marks(int place) throws IndexOutOfBoundsException {
        checkPlace(place);
        return present[place];
    }

    public String text() {
        return join(present, net.places);
    }

    public String keptText(int k) throws IndexOutOfBoundsException {
        checkKept(k);
        return join(kept[k], net.places);
    }

    public boolean can(int step, boolean isBack) throws IndexOutOfBoundsException {
        checkStep(step);
        return net.isAble(step, isBack, present);
    }

    public int going() {
        return net.ableMask(present);
    }

    public int touches(int step) throws IndexOutOfBoundsException {
        checkStep(step);
        return net.touchMask(step);
    }

    public boolean areApart(int step, int other) throws IndexOutOfBoundsException {
        checkStep(step);
        checkStep(other);
        return (net.touchMask(step) & net.touchMask(other)) == 0;
    }

    // ---- what is asked of what is REACHED

    public int reached() {
        exploreReach();
        return reach.tellCount();
    }

    public String reachedText(int n) throws IllegalArgumentException {
        checkNumber(n);
        exploreReach();
        if (reach.isWide) {
            return "?";
        }
        return n < reach.count ? join(reach.rows[n], net.places) : "";
    }

    public int number(int k) throws IndexOutOfBoundsException {
        checkKept(k);
        exploreReach();
        return reach.isWide ? WIDE : reach.find(kept[k]);
    }

    public String way(int k, int how) throws IndexOutOfBoundsException, IllegalArgumentException {
        checkKept(k);
        if (how != 0 && how != 1) {
            throw new IllegalArgumentException("how is not 0 or 1");
        }
        return how == 0 ? wayByLayers(kept[k]) : wayByDeepening(kept[k]);
    }

    public int deads() {
        exploreReach();
        return reach.tellDeads();
    }

    public int chances(int step) throws IndexOutOfBoundsException {
        checkStep(step);
        exploreReach();
        return reach.tellChances(step);
    }

    public int again(int step) throws IndexOutOfBoundsException {
        checkStep(step);
        exploreReach();
        return reach.tellAgain(step);
    }

    public int rings() {
        exploreReach();
        return reach.tellRings();
    }

    public int comesBack(int n) throws IllegalArgumentException {
        checkNumber(n);
        exploreReach();
        if (reach.isWide) {
            return WIDE;
        }
        if (n >= reach.count) {
            return NONE;
        }
        turnedReach.explore(net, reach.rows[n], true);
        if (turnedReach.isWide) {
            return WIDE;
        }
        return turnedReach.find(present) == NONE ? 0 : 1;
    }

    // ---- what is asked of the TREE, of WEIGHINGS

    public int nodes() {
        tree.grow(net, present);
        return tree.tellCount();
    }

    public int most(int place) throws IndexOutOfBoundsException {
        checkPlace(place);
        tree.grow(net, present);
        return tree.tellMost(place);
    }

    public int manies() {
        tree.grow(net, present);
        return tree.tellManies();
    }

    public int weighings() {
        scales.settle(net);
        return scales.count;
    }

    public int weighing(int w, int place) throws IndexOutOfBoundsException, IllegalArgumentException {
        checkPlace(place);
        checkWeighing(w);
        scales.settle(net);
        return w < scales.count ? scales.numbers[w][place] : 0;
    }

    public int weight(int w, int k) throws IndexOutOfBoundsException, IllegalArgumentException {
        if (k != NONE) {
            checkKept(k);
        }
        checkWeighing(w);
        scales.settle(net);
        if (w >= scales.count) {
            return 0;
        }
        return scales.weigh(w, k == NONE ? present : kept[k]);
    }

    // ---- the whole

    public int house(int what) throws IllegalArgumentException {
        switch (what) {
            case 0:
                return done;
            case 1:
                return refused;
            case 2:
                return knocks;
            case 3:
                return net.places;
            case 4:
                return net.steps;
            case 5:
                return sum(present);
            default:
                throw new IllegalArgumentException("what is not 0 to 5");
        }
    }

    public int knock() {
        knocks++;
        return knocks;
    }

    public boolean isSound() {
        lookAtAll();
        return isAllSound();
    }

    public long digest() {
        lookAtAll();
        long d = fold(fold(DIGEST_START, net.places), net.steps);
        d = foldNet(d);
        for (int k = 0; k < KEPT_MARKINGS; k++) {
            for (int p = 0; p < net.places; p++) {
                d = fold(d, kept[k][p]);
            }
        }
        d = fold(d, net.ableMask(present));
        d = fold(d, reach.tellCount());
        d = fold(d, reach.tellDeads());
        d = fold(d, reach.tellRings());
        d = fold(d, tree.tellCount());
        d = fold(d, tree.tellManies());
        d = fold(d, scales.count);
        d = fold(d, done);
        d = fold(d, refused);
        d = fold(d, knocks);
        d = fold(d, sum(present));
        return fold(d, isAllSound() ? 1 : 0);
    }

    // ---- what the arguments must be

    private void checkStep(int step) {
        if (step < 0 || step >= net.steps) {
            throw new IndexOutOfBoundsException("there is no such STEP");
        }
    }

    private void checkPlace(int place) {
        if (place < 0 || place >= net.places) {
            throw new IndexOutOfBoundsException("there is no such PLACE");
        }
    }

    private static void checkKept(int k) {
        if (k < 0 || k >= KEPT_MARKINGS) {
            throw new IndexOutOfBoundsException("there is no such KEPT MARKING");
        }
    }

    private static void checkNumber(int n) {
        if (n < 0 || n >= MAX_REACHED) {
            throw new IllegalArgumentException("n is not 0 to 15");
        }
    }

    private static void checkWeighing(int w) {
        if (w < 0 || w >= MAX_PLACES) {
            throw new IllegalArgumentException("w is not 0 to 7");
        }
    }

    // ---- how the acts are carried out

    private int refuse() {
        refused++;
        return REFUSED;
    }

    private int goOrRefuse(int step, boolean isBack) {
        if (!moves(step, isBack)) {
            return refuse();
        }
        done++;
        return sum(present);
    }

    private boolean goesFirst() {
        for (int s = 0; s < net.steps; s++) {
            if (moves(s, false)) {
                return true;
            }
        }
        return false;
    }

    private boolean moves(int step, boolean isBack) {
        if (!net.isAble(step, isBack, present)) {
            return false;
        }
        net.move(step, isBack, present, firstTrial);
        if (isOver(firstTrial)) {
            return false;
        }
        copy(firstTrial, present);
        return true;
    }

    private static int replace(int[] marking, int[] other) {
        if (isSame(marking, other)) {
            return 0;
        }
        copy(other, marking);
        return 1;
    }

    // ---- how what is asked is found

    private void exploreReach() {
        reach.explore(net, present, false);
    }

    private void lookAtAll() {
        exploreReach();
        tree.grow(net, present);
        scales.settle(net);
    }

    private String wayByLayers(int[] goal) {
        exploreReach();
        if (reach.isWide) {
            return "?";
        }
        int n = reach.find(goal);
        if (n == NONE) {
            return "none";
        }
        int length = reach.traceWay(n);
        return join(reach.way, length);
    }

    private String wayByDeepening(int[] goal) {
        if (isSame(present, goal)) {
            return "";
        }
        int last = stepTo(present, goal);
        if (last != NONE) {
            return new StringBuilder().append(last).toString();
        }
        for (int s = 0; s < net.steps; s++) {
            if (net.isAble(s, false, present)) {
                net.move(s, false, present, firstTrial);
                last = stepTo(firstTrial, goal);
                if (last != NONE) {
                    return new StringBuilder().append(s).append(' ').append(last).toString();
                }
            }
        }
        return "none";
    }

    private int stepTo(int[] from, int[] goal) {
        for (int s = 0; s < net.steps; s++) {
            if (net.isAble(s, false, from)) {
                net.move(s, false, from, secondTrial);
                if (isSame(secondTrial, goal)) {
                    return s;
                }
            }
        }
        return NONE;
    }

    private long foldNet(long start) {
        long d = start;
        for (int p = 0; p < net.places; p++) {
            d = fold(d, present[p]);
            for (int s = 0; s < net.steps; s++) {
                d = fold(fold(d, net.take[s][p]), net.lay[s][p]);
            }
        }
        return d;
    }

    private static long fold(long d, long value) {
        return d * 31 + value;
    }

    // ---- whether all is so; each of these needs lookAtAll() ahead of it

    private boolean isAllSound() {
        return !isOver(present) && areWeighingsSound() && isTreeSound() && areDeadsSound();
    }

    private boolean areWeighingsSound() {
        for (int s = 0; s < net.steps; s++) {
            if (net.isAble(s, false, present)) {
                net.move(s, false, present, firstTrial);
                if (!scales.weighAlike(present, firstTrial)) {
                    return false;
                }
            }
        }
        return true;
    }

    private boolean isTreeSound() {
        if (reach.isWide || tree.isWide) {
            return true;
        }
        if (tree.tellManies() != 0) {
            return false;
        }
        for (int p = 0; p < net.places; p++) {
            if (reach.mostAt(p) != tree.tellMost(p)) {
                return false;
            }
        }
        return true;
    }

    private boolean areDeadsSound() {
        if (reach.isWide) {
            return true;
        }
        int found = 0;
        for (int n = 0; n < reach.count; n++) {
            if (net.ableMask(reach.rows[n]) == 0) {
                found |= 1 << n;
            }
        }
        return found == reach.tellDeads();
    }

    // ---- MARKINGS: rows of MAX_PLACES numbers, 0 at each PLACE that the NET has not

    private static void wipe(int[] marking) {
        for (int p = 0; p < MAX_PLACES; p++) {
            marking[p] = 0;
        }
    }

    private static void copy(int[] from, int[] to) {
        for (int p = 0; p < MAX_PLACES; p++) {
            to[p] = from[p];
        }
    }

    private static boolean isSame(int[] one, int[] other) {
        for (int p = 0; p < MAX_PLACES; p++) {
            if (one[p] != other[p]) {
                return false;
            }
        }
        return true;
    }

    private static boolean isOver(int[] marking) {
        for (int p = 0; p < MAX_PLACES; p++) {
            if (marking[p] > MAX_MARKS) {
                return true;
            }
        }
        return false;
    }

    private static int sum(int[] marking) {
        int all = 0;
        for (int p = 0; p < MAX_PLACES; p++) {
            all += marking[p];
        }
        return all;
    }

    private static String join(int[] numbers, int many) {
        StringBuilder joined = new StringBuilder();
        for (int i = 0; i < many; i++) {
            if (i > 0) {
                joined.append(' ');
            }
            joined.append(numbers[i]);
        }
        return joined.toString();
    }

    /** PLACES and STEPS; of a STEP that the NET has not, and at a PLACE that it has not, all is 0. */
    private static final class Net {
        int places = FIRST_PLACES;
        int steps = 0;
        final int[][] take = new int[MAX_STEPS][MAX_PLACES];
        final int[][] lay = new int[MAX_STEPS][MAX_PLACES];

        void clear(int newPlaces) {
            places = newPlaces;
            steps = 0;
            for (int s = 0; s < MAX_STEPS; s++) {
                wipe(take[s]);
                wipe(lay[s]);
            }
        }

        void remove(int step) {
            for (int s = step; s + 1 < steps; s++) {
                copy(take[s + 1], take[s]);
                copy(lay[s + 1], lay[s]);
            }
            steps--;
            wipe(take[steps]);
            wipe(lay[steps]);
        }

        boolean exchange(int step) {
            boolean isOther = false;
            for (int p = 0; p < MAX_PLACES; p++) {
                int taken = take[step][p];
                if (taken != lay[step][p]) {
                    isOther = true;
                }
                take[step][p] = lay[step][p];
                lay[step][p] = taken;
            }
            return isOther;
        }

        int change(int step, int place) {
            return lay[step][place] - take[step][place];
        }

        boolean isAble(int step, boolean isBack, int[] marking) {
            int[] needed = isBack ? lay[step] : take[step];
            for (int p = 0; p < MAX_PLACES; p++) {
                if (marking[p] < needed[p]) {
                    return false;
                }
            }
            return true;
        }

        void move(int step, boolean isBack, int[] from, int[] to) {
            for (int p = 0; p < MAX_PLACES; p++) {
                int change = isBack ? -change(step, p) : change(step, p);
                to[p] = from[p] == MANY ? MANY : from[p] + change;
            }
        }

        int ableMask(int[] marking) {
            int mask = 0;
            for (int s = 0; s < steps; s++) {
                if (isAble(s, false, marking)) {
                    mask |= 1 << s;
                }
            }
            return mask;
        }

        int touchMask(int step) {
            int mask = 0;
            for (int p = 0; p < MAX_PLACES; p++) {
                if (take[step][p] > 0 || lay[step][p] > 0) {
                    mask |= 1 << p;
                }
            }
            return mask;
        }
    }

    /** The MARKINGS that are REACHED from one, found by layers. */
    private static final class Reach {
        int count = 0;
        boolean isWide = false;
        final int[][] rows = new int[MAX_REACHED][MAX_PLACES];
        // The STEPS of the WAY that was traced last, and the numbers of the MARKINGS behind each.
        final int[] way = new int[MAX_REACHED];
        private final int[] wayRows = new int[MAX_REACHED];
        private int wayLength = 0;
        private final int[] cameFrom = new int[MAX_REACHED];
        private final int[] cameBy = new int[MAX_REACHED];
        private final int[] layer = new int[MAX_REACHED];
        // What comes of a MARKING by a STEP, NONE where it can not go.
        private final int[][] next = new int[MAX_REACHED][MAX_STEPS];
        // The sum of 2^m for each MARKING m to which one comes from this one by one STEP or more.
        private final int[] ahead = new int[MAX_REACHED];
        private final int[] trial = new int[MAX_PLACES];

        void explore(Net net, int[] start, boolean isBack) {
            isWide = false;
            count = 1;
            copy(start, rows[0]);
            cameFrom[0] = NONE;
            cameBy[0] = NONE;
            layer[0] = 0;
            for (int n = 0; n < count && n < MAX_REACHED; n++) {
                for (int s = 0; s < MAX_STEPS; s++) {
                    next[n][s] = s < net.steps ? comeBy(net, n, s, isBack) : NONE;
                    if (isWide) {
                        return;
                    }
                }
            }
            closeAhead();
        }

        private int comeBy(Net net, int n, int step, boolean isBack) {
            if (!net.isAble(step, isBack, rows[n])) {
                return NONE;
            }
            net.move(step, isBack, rows[n], trial);
            int found = find(trial);
            if (found != NONE) {
                return found;
            }
            if (count >= MAX_REACHED) {
                isWide = true;
                return NONE;
            }
            int made = count;
            copy(trial, rows[made]);
            cameFrom[made] = n;
            cameBy[made] = step;
            layer[made] = layer[n] + 1;
            count++;
            return made;
        }

        private void closeAhead() {
            for (int n = 0; n < count; n++) {
                ahead[n] = 0;
                for (int s = 0; s < MAX_STEPS; s++) {
                    if (next[n][s] != NONE) {
                        ahead[n] |= 1 << next[n][s];
                    }
                }
            }
            for (int middle = 0; middle < count; middle++) {
                for (int n = 0; n < count; n++) {
                    if (isAhead(n, middle)) {
                        ahead[n] |= ahead[middle];
                    }
                }
            }
        }

        private boolean isAhead(int from, int to) {
            return (ahead[from] & (1 << to)) != 0;
        }

        int find(int[] marking) {
            for (int n = 0; n < count; n++) {
                if (isSame(rows[n], marking)) {
                    return n;
                }
            }
            return NONE;
        }

        int traceWay(int goal) {
            wayLength = layer[goal];
            int at = goal;
            for (int i = wayLength - 1; i >= 0 && at > 0; i--) {
                way[i] = cameBy[at];
                wayRows[i] = at;
                at = cameFrom[at];
            }
            return wayLength;
        }

        boolean isWayOver() {
            for (int i = 0; i < wayLength; i++) {
                if (isOver(rows[wayRows[i]])) {
                    return true;
                }
            }
            return false;
        }

        int mostAt(int place) {
            int most = 0;
            for (int n = 0; n < count; n++) {
                most = Math.max(most, rows[n][place]);
            }
            return most;
        }

        int tellCount() {
            return isWide ? WIDE : count;
        }

        int tellDeads() {
            if (isWide) {
                return WIDE;
            }
            int mask = 0;
            for (int n = 0; n < count; n++) {
                if (ahead[n] == 0) {
                    mask |= 1 << n;
                }
            }
            return mask;
        }

        int tellRings() {
            if (isWide) {
                return WIDE;
            }
            int mask = 0;
            for (int n = 0; n < count; n++) {
                if (isAhead(n, n)) {
                    mask |= 1 << n;
                }
            }
            return mask;
        }

        int tellChances(int step) {
            if (isWide) {
                return WIDE;
            }
            int many = 0;
            for (int n = 0; n < count; n++) {
                if (next[n][step] != NONE) {
                    many++;
                }
            }
            return many;
        }

        int tellAgain(int step) {
            if (isWide) {
                return WIDE;
            }
            for (int n = 0; n < count; n++) {
                int behind = next[n][step];
                if (behind != NONE && (behind == n || isAhead(behind, n))) {
                    return 1;
                }
            }
            return 0;
        }
    }

    /** The TREE from one MARKING. */
    private static final class Tree {
        boolean isWide = false;
        private int count = 0;
        private final int[][] rows = new int[MAX_NODES][MAX_PLACES];
        private final int[] cameFrom = new int[MAX_NODES];
        private final int[] trial = new int[MAX_PLACES];

        void grow(Net net, int[] root) {
            isWide = false;
            count = 1;
            copy(root, rows[0]);
            cameFrom[0] = NONE;
            for (int n = 0; n < count && n < MAX_NODES; n++) {
                if (!isAsOneAbove(n)) {
                    branch(net, n);
                }
                if (isWide) {
                    return;
                }
            }
        }

        private boolean isAsOneAbove(int n) {
            int up = cameFrom[n];
            for (int i = 0; i < MAX_NODES && up != NONE; i++) {
                if (isSame(rows[up], rows[n])) {
                    return true;
                }
                up = cameFrom[up];
            }
            return false;
        }

        private void branch(Net net, int n) {
            for (int s = 0; s < net.steps; s++) {
                if (net.isAble(s, false, rows[n])) {
                    if (count >= MAX_NODES) {
                        isWide = true;
                        return;
                    }
                    net.move(s, false, rows[n], trial);
                    raise(n);
                    copy(trial, rows[count]);
                    cameFrom[count] = n;
                    count++;
                }
            }
        }

        private void raise(int from) {
            int up = from;
            for (int i = 0; i < MAX_NODES && up != NONE; i++) {
                if (isUnderTrial(rows[up])) {
                    raiseOver(rows[up]);
                }
                up = cameFrom[up];
            }
        }

        private boolean isUnderTrial(int[] row) {
            for (int p = 0; p < MAX_PLACES; p++) {
                if (row[p] > trial[p]) {
                    return false;
                }
            }
            return true;
        }

        private void raiseOver(int[] row) {
            for (int p = 0; p < MAX_PLACES; p++) {
                if (row[p] < trial[p]) {
                    trial[p] = MANY;
                }
            }
        }

        int tellCount() {
            return isWide ? WIDE : count;
        }

        int tellMost(int place) {
            if (isWide) {
                return WIDE;
            }
            int most = mostAt(place);
            return most == MANY ? MANY_TOLD : most;
        }

        int tellManies() {
            if (isWide) {
                return WIDE;
            }
            int mask = 0;
            for (int p = 0; p < MAX_PLACES; p++) {
                if (mostAt(p) == MANY) {
                    mask |= 1 << p;
                }
            }
            return mask;
        }

        private int mostAt(int place) {
            int most = 0;
            for (int n = 0; n < count; n++) {
                most = Math.max(most, rows[n][place]);
            }
            return most;
        }
    }

    /**
     * The told WEIGHINGS. Row p of changes is the sum of CHANGES that row p of parts tells, PLACE by
     * PLACE: that of PLACE p, from which those of the TIED lesser ones have cancelled what they can.
     * If nothing of it is left, the parts are a WEIGHING.
     */
    private static final class Scales {
        int count = 0;
        final int[][] numbers = new int[MAX_PLACES][MAX_PLACES];
        private final long[][] changes = new long[MAX_PLACES][MAX_STEPS];
        private final long[][] parts = new long[MAX_PLACES][MAX_PLACES];
        // The first STEP at which a row of changes is not 0, by which the row cancels; NONE if FREE.
        private final int[] pivots = new int[MAX_PLACES];

        void settle(Net net) {
            count = 0;
            for (int p = 0; p < net.places; p++) {
                load(net, p);
                for (int lesser = 0; lesser < p; lesser++) {
                    if (pivots[lesser] != NONE) {
                        cancel(p, lesser, pivots[lesser]);
                    }
                }
                pivots[p] = firstChange(p);
                if (pivots[p] == NONE) {
                    tellFree(p);
                }
            }
        }

        private void load(Net net, int place) {
            for (int s = 0; s < MAX_STEPS; s++) {
                changes[place][s] = net.change(s, place);
            }
            for (int p = 0; p < MAX_PLACES; p++) {
                parts[place][p] = p == place ? 1 : 0;
            }
        }

        private void cancel(int place, int tied, int pivot) {
            long mine = changes[place][pivot];
            long other = changes[tied][pivot];
            if (mine == 0) {
                return;
            }
            for (int s = 0; s < MAX_STEPS; s++) {
                changes[place][s] = changes[place][s] * other - changes[tied][s] * mine;
            }
            for (int p = 0; p < MAX_PLACES; p++) {
                parts[place][p] = parts[place][p] * other - parts[tied][p] * mine;
            }
            shorten(place);
        }

        // Without this the numbers could outgrow a long; what divides all parts divides all changes.
        private void shorten(int place) {
            long shared = 0;
            for (int p = 0; p < MAX_PLACES; p++) {
                shared = commonDivisor(shared, parts[place][p]);
            }
            if (shared <= 1) {
                return;
            }
            for (int s = 0; s < MAX_STEPS; s++) {
                changes[place][s] /= shared;
            }
            for (int p = 0; p < MAX_PLACES; p++) {
                parts[place][p] /= shared;
            }
        }

        private static long commonDivisor(long one, long other) {
            long a = Math.abs(one);
            long b = Math.abs(other);
            for (int i = 0; i < MAX_DIVISIONS && b != 0; i++) {
                long rest = a % b;
                a = b;
                b = rest;
            }
            return a;
        }

        private int firstChange(int place) {
            for (int s = 0; s < MAX_STEPS; s++) {
                if (changes[place][s] != 0) {
                    return s;
                }
            }
            return NONE;
        }

        private void tellFree(int place) {
            int sign = parts[place][place] < 0 ? -1 : 1;
            for (int p = 0; p < MAX_PLACES; p++) {
                numbers[count][p] = (int) (sign * parts[place][p]);
            }
            count++;
        }

        int weigh(int w, int[] marking) {
            int weight = 0;
            for (int p = 0; p < MAX_PLACES; p++) {
                weight += numbers[w][p] * marking[p];
            }
            return weight;
        }

        boolean weighAlike(int[] one, int[] other) {
            for (int w = 0; w < count; w++) {
                if (weigh(w, one) != weigh(w, other)) {
                    return false;
                }
            }
            return true;
        }
    }
}
