import java.util.ArrayList;
import java.util.Arrays;
import java.util.List;

/**
 * WHAT ALWAYS HOLDS, sentence by sentence, in many small NETS of a fixed row of numbers: seen through the
 * class's own answers alone, without a second program. Each sentence has objects of its own.
 */
final class AlwaysTest {
    private static final int NETS = 4000;
    private static final Checks CHECKS = new Checks();
    private static long row = 7;
    private static int bounded = 0;
    private static int unbounded = 0;
    private static int onRings = 0;

    private final int places = 1 + below(4);
    private final int steps = 1 + below(4);
    private final int[][] arcs = new int[steps][2 * places];
    private final int[] start = new int[places];
    private final String net;
    // Empty, if the NET is WIDE.
    private final List<int[]> reached = new ArrayList<>();

    public static void main(String[] args) {
        for (int i = 0; i < NETS && !CHECKS.isWrong(); i++) {
            AlwaysTest test = new AlwaysTest();
            test.aStepGoesJustWhereItsMarksLie();
            test.stepsThatAreApartGoInEitherSequence();
            test.eachReachedOneHasItsWay();
            test.eachReachedOneWeighsAlike();
            test.marksGrowJustWhereManyIsTold();
            test.againIsToStandOnARing();
            test.deadIsWhereNoneCanGo();
            test.turnedReachesBack();
        }
        boolean isOfEachKind = bounded > 500 && unbounded > 500 && onRings > 300;
        CHECKS.due("NETS with a bound, without one, with rings: " + bounded + " " + unbounded + " " + onRings, isOfEachKind, true);
        CHECKS.end();
    }

    private static int below(int end) {
        row = row * 6364136223846793005L + 1442695040888963407L;
        return (int) ((row >>> 33) % end);
    }

    private AlwaysTest() {
        for (int[] arc : arcs) {
            arc[2 * below(places)] = below(4) == 0 ? below(4) : 1;
            arc[2 * below(places) + 1] = below(5) == 0 ? below(4) : 1;
        }
        for (int p = 0; p < places; p++) {
            start[p] = below(4);
        }
        Pebblegate x = at(start);
        net = Nets.state(x);
        int many = x.reached();
        for (int n = 0; n < many; n++) {
            String[] texts = x.reachedText(n).split(" ");
            reached.add(Arrays.stream(texts).mapToInt(Integer::parseInt).toArray());
        }
    }

    private Pebblegate at(int[] marks) {
        return Nets.net(places, arcs, marks);
    }

    private void due(String what, Object got, Object want) {
        CHECKS.due(what + " [" + net + "]", got, want);
    }

    private boolean canGo(int[] marks, int s) {
        boolean can = true;
        for (int p = 0; p < places; p++) {
            can &= marks[p] >= arcs[s][2 * p];
        }
        return can;
    }

    private int[] after(int[] marks, int s) {
        int[] after = marks.clone();
        for (int p = 0; p < places; p++) {
            after[p] += arcs[s][2 * p + 1] - arcs[s][2 * p];
        }
        return after;
    }

    private static String text(int[] marks) {
        StringBuilder text = new StringBuilder();
        for (int m : marks) {
            text.append(text.length() > 0 ? " " : "").append(m);
        }
        return text.toString();
    }

    // ---- the sentences

    private void aStepGoesJustWhereItsMarksLie() {
        Pebblegate x = at(start);
        for (int s = 0; s < steps; s++) {
            due("it can go where its MARKS lie", x.can(s, false), canGo(start, s));
            if (canGo(start, s)) {
                int[] after = after(start, s);
                due("it goes", x.go(s), Arrays.stream(after).sum());
                due("it takes and lays just these", x.text(), text(after));
                due("it goes back", x.back(s), Arrays.stream(start).sum());
            } else {
                due("it does not go", x.go(s), -9);
            }
            due("as at first", x.text(), text(start));
        }
    }

    private void stepsThatAreApartGoInEitherSequence() {
        for (int s = 0; s < steps; s++) {
            for (int other = 0; other < steps; other++) {
                Pebblegate x = at(start);
                if (s != other && x.areApart(s, other) && x.can(s, false) && x.can(other, false)) {
                    due("the one lets the other go", x.go(s) >= 0 && x.go(other) >= 0, true);
                    Pebblegate y = at(start);
                    due("and the other way", y.go(other) >= 0 && y.go(s) >= 0, true);
                    due("they go to one MARKING", y.text(), x.text());
                }
            }
        }
    }

    private void eachReachedOneHasItsWay() {
        for (int n = 0; n < reached.size(); n++) {
            Pebblegate x = at(start);
            Nets.keepAs(x, 0, reached.get(n));
            String way = x.way(0, 0);
            int length = (way.length() + 1) / 2;
            due("by layers and by DEEPENING the same", x.way(0, 1), length <= 2 ? way : "none");
            due("its number", x.number(0), n);
            due("follow goes the WAY", x.follow(0), length);
            due("to it", x.text(), text(reached.get(n)));
            int[] marks = start;
            for (int i = 0; i < length; i++) {
                int s = way.charAt(2 * i) - '0';
                due("each STEP of the WAY can go", canGo(marks, s), true);
                marks = after(marks, s);
            }
            due("the WAY leads to it", text(marks), text(reached.get(n)));
        }
    }

    private void eachReachedOneWeighsAlike() {
        Pebblegate x = at(start);
        int told = x.weighings();
        for (int w = 0; w < told; w++) {
            int due = x.weight(w, -1);
            for (int[] marks : reached) {
                int weight = 0;
                for (int p = 0; p < places; p++) {
                    weight += x.weighing(w, p) * marks[p];
                }
                due("each one weighs like the present one", weight, due);
            }
        }
    }

    private void marksGrowJustWhereManyIsTold() {
        Pebblegate x = at(start);
        due("all is sound", x.isSound(), true);
        if (x.manies() > 0) {
            unbounded++;
            due("where MANY is told, the NET is WIDE", x.reached(), -9);
        } else if (x.manies() == 0 && !reached.isEmpty()) {
            bounded++;
            for (int p = 0; p < places; p++) {
                int place = p;
                int most = reached.stream().mapToInt(marks -> marks[place]).max().getAsInt();
                due("some REACHED one has the most that the TREE tells", x.most(p), most);
            }
        }
    }

    private void againIsToStandOnARing() {
        int rings = 0;
        for (int s = 0; s < steps && !reached.isEmpty(); s++) {
            int again = 0;
            for (int n = 0; n < reached.size(); n++) {
                if (canGo(reached.get(n), s) && isReachedFrom(after(reached.get(n), s), reached.get(n))) {
                    again = 1;
                    rings |= 1 << n;
                }
            }
            due("STEP " + s + " goes again and again", at(start).again(s), again);
        }
        due("rings", at(start).rings(), reached.isEmpty() ? -9 : rings);
        onRings += rings != 0 ? 1 : 0;
    }

    private boolean isReachedFrom(int[] from, int[] to) {
        Pebblegate x = at(from);
        Nets.keepAs(x, 0, to);
        return x.number(0) >= 0;
    }

    private void deadIsWhereNoneCanGo() {
        int deads = 0;
        for (int n = 0; n < reached.size(); n++) {
            deads |= at(reached.get(n)).going() == 0 ? 1 << n : 0;
        }
        due("DEAD is where none can go", at(start).deads(), reached.isEmpty() ? -9 : deads);
    }

    private void turnedReachesBack() {
        Pebblegate x = at(start);
        for (int n = 0; n < reached.size(); n++) {
            Pebblegate turned = at(reached.get(n));
            turned.turn();
            Nets.keepAs(turned, 0, start);
            int number = turned.number(0);
            due("the NET TURNED reaches back", x.comesBack(n), number == -9 ? -9 : 1);
            due("and so it does when it is TURNED", number != -1, true);
        }
        due("what is asked changes nothing", Nets.state(x), net);
    }
}
