import java.util.ArrayList;
import java.util.Arrays;
import java.util.HashSet;
import java.util.List;
import java.util.PriorityQueue;
import java.util.Set;

/**
 * WHAT ALWAYS HOLDS, sentence by sentence, in many small NETS of a fixed row of numbers: seen through the
 * class's own answers, and where a sentence tells of more than these (of all rows of STEPS, of MARKS without
 * bound) through a plain search of the test's own. Each sentence has objects of its own.
 */
final class AlwaysTest {
    private static final int NETS = 4000;
    // By rows of so many STEPS one comes to 16 MARKINGS and goes round there 17 times.
    private static final int LONG_ROW = 300;
    // What one looks at, at most, to find more MARKS, and what is far more than a TREE of 20 nodes has without MANY.
    private static final int LOOKED_AT = 4000;
    private static final int FAR_MORE = 80;
    private static final Checks CHECKS = new Checks();
    private static long row = 7;
    private static int bounded = 0;
    private static int unbounded = 0;
    private static int onRings = 0;
    private static int besideMany = 0;

    private final int places = 1 + below(4);
    private final int steps = 1 + below(4);
    private final int[][] arcs = new int[steps][2 * places];
    private final int[] start = new int[places];
    private final String net;
    // Empty, if the NET is WIDE.
    private final List<int[]> reached = new ArrayList<>();

    public static void main(String[] args) {
        for (int i = 0; i < NETS && !CHECKS.isWrong(); i++) {
            AlwaysTest test = new AlwaysTest();
            test.aStepGoesJustWhereItsMarksLie();
            test.stepsThatAreApartGoInEitherSequence();
            test.eachReachedOneHasItsWay();
            test.eachWayIsTheFirstOfTheShortest();
            test.eachReachedOneWeighsAlike();
            test.weighingsStayWhereverOneGoes();
            test.marksGrowJustWhereManyIsTold();
            test.eachPlaceHasTheMostOfTheTree();
            test.withoutManyTheyAreFinitelyMany();
            test.againIsToStandOnARing();
            test.againIsToGoAsOftenAsOneLikes();
            test.deadIsWhereNoneCanGo();
            test.turnedReachesBack();
        }
        CHECKS.due("NETS with a bound: " + bounded, bounded > 500, true);
        CHECKS.due("NETS without a bound: " + unbounded, unbounded > 500, true);
        CHECKS.due("NETS with rings: " + onRings, onRings > 300, true);
        CHECKS.due("PLACES without MANY beside one with MANY: " + besideMany, besideMany > 500, true);
        CHECKS.end();
    }

    private static int below(int end) {
        row = row * 6364136223846793005L + 1442695040888963407L;
        return (int) ((row >>> 33) % end);
    }

    private AlwaysTest() {
        for (int[] arc : arcs) {
            arc[2 * below(places)] = below(4) == 0 ? below(4) : 1;
            arc[2 * below(places) + 1] = below(5) == 0 ? below(4) : 1;
        }
        for (int p = 0; p < places; p++) {
            start[p] = below(4);
        }
        Pebblegate x = at(start);
        net = Nets.state(x);
        int many = x.reached();
        for (int n = 0; n < many; n++) {
            String[] texts = x.reachedText(n).split(" ");
            reached.add(Arrays.stream(texts).mapToInt(Integer::parseInt).toArray());
        }
    }

    private Pebblegate at(int[] marks) {
        return Nets.net(places, arcs, marks);
    }

    private void due(String what, Object got, Object want) {
        CHECKS.due(what + " [" + net + "]", got, want);
    }

    private boolean canGo(int[] marks, int s) {
        boolean can = true;
        for (int p = 0; p < places; p++) {
            can &= marks[p] >= arcs[s][2 * p];
        }
        return can;
    }

    private int[] after(int[] marks, int s) {
        int[] after = marks.clone();
        for (int p = 0; p < places; p++) {
            after[p] += arcs[s][2 * p + 1] - arcs[s][2 * p];
        }
        return after;
    }

    private static String text(int[] marks) {
        StringBuilder text = new StringBuilder();
        for (int m : marks) {
            text.append(text.length() > 0 ? " " : "").append(m);
        }
        return text.toString();
    }

    // ---- the sentences

    private void aStepGoesJustWhereItsMarksLie() {
        Pebblegate x = at(start);
        for (int s = 0; s < steps; s++) {
            due("it can go where its MARKS lie", x.can(s, false), canGo(start, s));
            if (canGo(start, s)) {
                int[] after = after(start, s);
                due("it goes", x.go(s), Arrays.stream(after).sum());
                due("it takes and lays just these", x.text(), text(after));
                due("it goes back", x.back(s), Arrays.stream(start).sum());
            } else {
                due("it does not go", x.go(s), -9);
            }
            due("as at first", x.text(), text(start));
        }
    }

    private void stepsThatAreApartGoInEitherSequence() {
        for (int s = 0; s < steps; s++) {
            for (int other = 0; other < steps; other++) {
                Pebblegate x = at(start);
                if (s != other && x.areApart(s, other) && x.can(s, false) && x.can(other, false)) {
                    due("the one lets the other go", x.go(s) >= 0 && x.go(other) >= 0, true);
                    Pebblegate y = at(start);
                    due("and the other way", y.go(other) >= 0 && y.go(s) >= 0, true);
                    due("they go to one MARKING", y.text(), x.text());
                }
            }
        }
    }

    private void eachReachedOneHasItsWay() {
        for (int n = 0; n < reached.size(); n++) {
            Pebblegate x = at(start);
            Nets.keepAs(x, 0, reached.get(n));
            String way = x.way(0, 0);
            int length = (way.length() + 1) / 2;
            due("by layers and by DEEPENING the same", x.way(0, 1), length <= 2 ? way : "none");
            due("its number", x.number(0), n);
            due("follow goes the WAY", x.follow(0), length);
            due("to it", x.text(), text(reached.get(n)));
            int[] marks = start;
            for (int i = 0; i < length; i++) {
                int s = way.charAt(2 * i) - '0';
                due("each STEP of the WAY can go", canGo(marks, s), true);
                marks = after(marks, s);
            }
            due("the WAY leads to it", text(marks), text(reached.get(n)));
        }
    }

    /** Of each one the WAY, found by handing on what is shorter, or as short and lesser, until nothing changes. */
    private void eachWayIsTheFirstOfTheShortest() {
        String[] ways = new String[reached.size()];
        for (int round = 0; round < ways.length; round++) {
            ways[0] = "";
            for (int n = 0; n < ways.length; n++) {
                for (int s = 0; s < steps && ways[n] != null; s++) {
                    int next = numberAfter(n, s);
                    String way = ways[n] + s;
                    if (next >= 0 && (ways[next] == null || isAhead(way, ways[next]))) {
                        ways[next] = way;
                    }
                }
            }
        }
        for (int n = 0; n < ways.length; n++) {
            Pebblegate x = at(start);
            Nets.keepAs(x, 0, reached.get(n));
            due("the first of the shortest rows", x.way(0, 0), String.join(" ", ways[n].split("")));
            due("they are numbered by their WAYS", n == 0 || isAhead(ways[n - 1], ways[n]), true);
        }
    }

    private static boolean isAhead(String way, String other) {
        return way.length() < other.length() || way.length() == other.length() && way.compareTo(other) < 0;
    }

    /** What comes of the REACHED MARKING n by a STEP; -1 if it can not go. */
    private int numberAfter(int n, int s) {
        if (!canGo(reached.get(n), s)) {
            return -1;
        }
        int[] after = after(reached.get(n), s);
        for (int m = 0; m < reached.size(); m++) {
            if (Arrays.equals(reached.get(m), after)) {
                return m;
            }
        }
        due("what comes of a REACHED one is REACHED", text(after), "one of these");
        return -1;
    }

    private void eachReachedOneWeighsAlike() {
        Pebblegate x = at(start);
        int told = x.weighings();
        for (int w = 0; w < told; w++) {
            int due = x.weight(w, -1);
            for (int[] marks : reached) {
                int weight = 0;
                for (int p = 0; p < places; p++) {
                    weight += x.weighing(w, p) * marks[p];
                }
                due("each one weighs like the present one", weight, due);
            }
        }
    }

    /** In a WIDE NET, too; and it goes back as well. */
    private void weighingsStayWhereverOneGoes() {
        Pebblegate x = at(start);
        int told = x.weighings();
        int[] due = new int[told];
        for (int w = 0; w < told; w++) {
            due[w] = x.weight(w, -1);
        }
        for (int i = 0; i < 30; i++) {
            int s = below(steps);
            int went = below(4) == 0 ? x.back(s) : x.go(s);
            for (int w = 0; w < told && went >= 0; w++) {
                due("the weight stays", x.weight(w, -1), due[w]);
            }
        }
    }

    private void marksGrowJustWhereManyIsTold() {
        Pebblegate x = at(start);
        due("all is sound", x.isSound(), true);
        if (x.manies() > 0) {
            unbounded++;
            due("where MANY is told, the NET is WIDE", x.reached(), -9);
        } else if (x.manies() == 0 && !reached.isEmpty()) {
            bounded++;
            for (int p = 0; p < places; p++) {
                int place = p;
                int most = reached.stream().mapToInt(marks -> marks[place]).max().getAsInt();
                due("some REACHED one has the most that the TREE tells", x.most(p), most);
            }
        }
    }

    /** Also where the NET is WIDE, as far as a search of its own comes. */
    private void eachPlaceHasTheMostOfTheTree() {
        Pebblegate x = at(start);
        for (int p = 0; p < places && x.nodes() > 0; p++) {
            int most = x.most(p);
            if (most == -2) {
                due("MARKS grow at PLACE " + p, mostFound(p, FAR_MORE) >= FAR_MORE, true);
            } else {
                due("just so many come to PLACE " + p, mostFound(p, FAR_MORE), most);
                besideMany += x.manies() > 0 ? 1 : 0;
            }
        }
    }

    /** The most MARKS at a PLACE, where the fullest MARKINGS are looked at first; it ends with so many. */
    private int mostFound(int place, int enough) {
        // Ahead of the MARKING: how many were met before it.
        PriorityQueue<int[]> waiting = new PriorityQueue<>((one, other) ->
                one[place + 1] != other[place + 1] ? other[place + 1] - one[place + 1] : one[0] - other[0]);
        Set<String> met = new HashSet<>();
        met.add(text(start));
        waiting.add(withNumber(0, start));
        int most = start[place];
        for (int i = 0; i < LOOKED_AT && !waiting.isEmpty() && most < enough; i++) {
            int[] numbered = waiting.remove();
            int[] marks = Arrays.copyOfRange(numbered, 1, numbered.length);
            most = Math.max(most, marks[place]);
            for (int s = 0; s < steps; s++) {
                if (canGo(marks, s) && met.add(text(after(marks, s)))) {
                    waiting.add(withNumber(met.size(), after(marks, s)));
                }
            }
        }
        return most;
    }

    private static int[] withNumber(int number, int[] marks) {
        int[] row = new int[marks.length + 1];
        row[0] = number;
        System.arraycopy(marks, 0, row, 1, marks.length);
        return row;
    }

    /** A TREE of 20 nodes has as many MARKINGS at most. */
    private void withoutManyTheyAreFinitelyMany() {
        Pebblegate x = at(start);
        if (x.manies() != 0) {
            return;
        }
        List<int[]> found = new ArrayList<>(List.of(start));
        Set<String> met = new HashSet<>(List.of(text(start)));
        for (int n = 0; n < found.size() && n <= 20; n++) {
            for (int s = 0; s < steps; s++) {
                if (canGo(found.get(n), s) && met.add(text(after(found.get(n), s)))) {
                    found.add(after(found.get(n), s));
                }
            }
        }
        due("no more than the nodes", found.size() <= x.nodes(), true);
        due("they are told, if they are not more than 16", x.reached(), found.size() <= 16 ? found.size() : -9);
    }

    private void againIsToStandOnARing() {
        int rings = 0;
        for (int s = 0; s < steps && !reached.isEmpty(); s++) {
            int again = 0;
            for (int n = 0; n < reached.size(); n++) {
                if (canGo(reached.get(n), s) && isReachedFrom(after(reached.get(n), s), reached.get(n))) {
                    again = 1;
                    rings |= 1 << n;
                }
            }
            due("STEP " + s + " goes again and again", at(start).again(s), again);
        }
        due("rings", at(start).rings(), reached.isEmpty() ? -9 : rings);
        onRings += rings != 0 ? 1 : 0;
    }

    /** Of 17 times that a STEP goes two are at one of the 16 MARKINGS, so that it can go for ever. */
    private void againIsToGoAsOftenAsOneLikes() {
        int[][] next = new int[reached.size()][steps];
        for (int n = 0; n < next.length; n++) {
            for (int s = 0; s < steps; s++) {
                next[n][s] = numberAfter(n, s);
            }
        }
        for (int s = 0; s < steps && next.length > 0; s++) {
            due("it goes 17 times", at(start).again(s), timesAtMost(next, s) >= 17 ? 1 : 0);
        }
    }

    /** How often it goes at most, in a row of LONG_ROW STEPS or fewer. */
    private static int timesAtMost(int[][] next, int step) {
        // By rows that end at each one; -1 if there is none.
        int[] times = new int[next.length];
        Arrays.fill(times, -1);
        times[0] = 0;
        int most = 0;
        for (int length = 0; length < LONG_ROW; length++) {
            int[] longer = new int[next.length];
            Arrays.fill(longer, -1);
            for (int n = 0; n < next.length; n++) {
                for (int s = 0; s < next[n].length && times[n] >= 0; s++) {
                    if (next[n][s] >= 0) {
                        int m = next[n][s];
                        longer[m] = Math.max(longer[m], times[n] + (s == step ? 1 : 0));
                        most = Math.max(most, longer[m]);
                    }
                }
            }
            times = longer;
        }
        return most;
    }

    private boolean isReachedFrom(int[] from, int[] to) {
        Pebblegate x = at(from);
        Nets.keepAs(x, 0, to);
        return x.number(0) >= 0;
    }

    private void deadIsWhereNoneCanGo() {
        int deads = 0;
        for (int n = 0; n < reached.size(); n++) {
            deads |= at(reached.get(n)).going() == 0 ? 1 << n : 0;
        }
        due("DEAD is where none can go", at(start).deads(), reached.isEmpty() ? -9 : deads);
    }

    private void turnedReachesBack() {
        Pebblegate x = at(start);
        for (int n = 0; n < reached.size(); n++) {
            Pebblegate turned = at(reached.get(n));
            turned.turn();
            Nets.keepAs(turned, 0, start);
            int number = turned.number(0);
            due("the NET TURNED reaches back", x.comesBack(n), number == -9 ? -9 : 1);
            due("and so it does when it is TURNED", number != -1, true);
        }
        due("what is asked changes nothing", Nets.state(x), net);
    }
}
