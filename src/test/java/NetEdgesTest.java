import java.util.List;
import java.util.function.Function;

/**
 * The edges of "1. Nets" and of the promises about acts and about the NET (2 to 13, 15 to 22): what is
 * counted and what is not, what is REFUSED, what is empty and what is full. What an argument may be
 * stands in BoundsTest.
 */
final class NetEdgesTest {
    private static final Checks CHECKS = new Checks();

    public static void main(String[] args) {
        eachActIsDone();
        eachActIsDoneAlsoIfNothingIsOther();
        knockIsNoAct();
        whatIsAskedChangesAndCountsNothing();
        exceptionsGoAheadOfRefused();
        newNet();
        beginLeavesNothing();
        eightSteps();
        arcsOfEachSize();
        strikeTheFirstAndTheLast();
        turnCountsEachStepOnce();
        addUpToTheEnds();
        goesAtJustItsTake();
        eachPlaceMustHaveTheTake();
        goesUpTo99();
        sumsOfGoing();
        runsAsLongAsOneCan();
        runPassesByWhatGoesAbove99();
        fourKeptMarkings();
        touchesByTakeOrByLay();
        apart();
        goingOfEachStep();
        CHECKS.end();
    }

    // ---- what is counted

    private static void eachActIsDone() {
        Pebblegate x = new Pebblegate();
        CHECKS.dueDone(x, "begin", () -> x.begin(2), 4);
        CHECKS.dueDone(x, "step", () -> x.step(), 0);
        CHECKS.dueDone(x, "arc", () -> x.arc(0, 0, 1, 0), 1);
        CHECKS.dueDone(x, "set", () -> x.set(0, 3), 0);
        CHECKS.dueDone(x, "add", () -> x.add(0, 2), 5);
        CHECKS.dueDone(x, "go", () -> x.go(0), 4);
        CHECKS.dueDone(x, "back", () -> x.back(0), 5);
        CHECKS.dueDone(x, "run, of two one act", () -> x.run(2), 2);
        CHECKS.dueDone(x, "keep", () -> x.keep(0), 1);
        CHECKS.dueDone(x, "recall", () -> x.recall(1), 1);
        CHECKS.dueDone(x, "set again", () -> x.set(0, 5), 0);
        CHECKS.dueDone(x, "follow, of two one act", () -> x.follow(0), 2);
        CHECKS.dueDone(x, "turn", () -> x.turn(), 1);
        CHECKS.dueDone(x, "strike", () -> x.strike(0), 0);
        CHECKS.due("all acts", Nets.counts(x), Nets.counts(14, 0, 0));
    }

    private static void eachActIsDoneAlsoIfNothingIsOther() {
        Pebblegate x = new Pebblegate();
        CHECKS.dueDone(x, "begin, nothing other", () -> x.begin(4), 4);
        CHECKS.dueDone(x, "turn of no STEPS", () -> x.turn(), 0);
        CHECKS.dueDone(x, "run of no STEPS", () -> x.run(20), 0);
        x.step();
        CHECKS.dueDone(x, "arc, nothing other", () -> x.arc(0, 0, 0, 0), 0);
        CHECKS.dueDone(x, "turn, nothing other", () -> x.turn(), 0);
        CHECKS.dueDone(x, "set, nothing other", () -> x.set(0, 0), 0);
        CHECKS.dueDone(x, "add, nothing other", () -> x.add(0, 0), 0);
        CHECKS.dueDone(x, "go, nothing other", () -> x.go(0), 0);
        CHECKS.dueDone(x, "back, nothing other", () -> x.back(0), 0);
        CHECKS.dueDone(x, "run of none", () -> x.run(0), 0);
        CHECKS.dueDone(x, "run, nothing other", () -> x.run(20), 20);
        CHECKS.dueDone(x, "keep, nothing other", () -> x.keep(3), 0);
        CHECKS.dueDone(x, "recall, nothing other", () -> x.recall(3), 0);
        CHECKS.dueDone(x, "follow, the WAY of no STEPS", () -> x.follow(3), 0);
        CHECKS.due("nothing other, all acts", Nets.counts(x), Nets.counts(15, 0, 0));
    }

    private static void knockIsNoAct() {
        Pebblegate x = new Pebblegate();
        String state = Nets.state(x);
        CHECKS.due("the first knock", x.knock(), 1);
        CHECKS.due("the second knock", x.knock(), 2);
        CHECKS.due("a knock is counted as that alone", Nets.counts(x), Nets.counts(0, 0, 2));
        CHECKS.due("a knock changes nothing", Nets.state(x), state);
        x.begin(4);
        CHECKS.due("begin leaves what is counted", Nets.counts(x), Nets.counts(1, 0, 2));
    }

    /** Each method that is asked; in a NET where it tells -9 or "?", too. */
    private static void whatIsAskedChangesAndCountsNothing() {
        List<Function<Pebblegate, Object>> asked = List.of(
                x -> x.ofArc(0, 0, 0), x -> x.marks(0), x -> x.text(), x -> x.keptText(0), x -> x.can(0, false),
                x -> x.can(0, true), x -> x.going(), x -> x.touches(0), x -> x.areApart(0, 0), x -> x.reached(),
                x -> x.reachedText(0), x -> x.number(0), x -> x.way(0, 0), x -> x.way(0, 1), x -> x.deads(),
                x -> x.chances(0), x -> x.again(0), x -> x.rings(), x -> x.comesBack(0), x -> x.nodes(),
                x -> x.most(0), x -> x.manies(), x -> x.weighings(), x -> x.weighing(0, 0), x -> x.weight(0, -1),
                x -> x.house(0), x -> x.isSound(), x -> x.digest());
        Object[] dueWide = {
            1, 99, "99", "99", true, true, 1, 1, false, -9, "?", -9, "?", "", -9, -9, -9, -9, -9, -9, -9, -9, 0, 0, 0
        };
        for (int i = 0; i < asked.size(); i++) {
            Pebblegate wide = Nets.stairs(99);
            wide.keep(0);
            Object due = i < dueWide.length ? dueWide[i] : asked.get(i).apply(wide);
            Function<Pebblegate, Object> call = asked.get(i);
            CHECKS.dueAsked(wide, "asked " + i + ", WIDE", () -> call.apply(wide), due);
            Pebblegate ring = Nets.wheel();
            Object answer = call.apply(ring);
            CHECKS.dueAsked(ring, "asked " + i + ", a ring", () -> call.apply(ring), answer);
        }
    }

    private static void exceptionsGoAheadOfRefused() {
        Pebblegate full = Nets.full(99);
        CHECKS.due("add above 99, go above 99", full.add(0, 1) + " " + full.go(0), "-9 -9");
        Pebblegate adding = Nets.full(99);
        CHECKS.dueArgument(adding, "add 100 at 99", () -> adding.add(0, 100));
        Pebblegate nowhere = Nets.full(99);
        CHECKS.dueIndex(nowhere, "add above 99 where there is no PLACE", () -> nowhere.add(8, 1));
        Pebblegate going = Nets.full(99);
        CHECKS.dueIndex(going, "go where none can go, no such STEP", () -> going.go(8));
        Pebblegate wide = Nets.stairs(16);
        CHECKS.dueRefused(wide, "follow, WIDE", () -> wide.follow(0));
        CHECKS.dueIndex(wide, "follow, WIDE, no such KEPT MARKING", () -> wide.follow(4));
        CHECKS.dueIndex(wide, "number, WIDE, no such KEPT MARKING", () -> wide.number(4));
        CHECKS.dueIndex(wide, "way, WIDE, no such KEPT MARKING", () -> wide.way(4, 0));
        CHECKS.dueArgument(wide, "way, WIDE, how is 2", () -> wide.way(0, 2));
        CHECKS.dueArgument(wide, "reachedText, WIDE, n is 16", () -> wide.reachedText(16));
        CHECKS.dueIndex(wide, "chances, WIDE, no such STEP", () -> wide.chances(1));
        CHECKS.dueIndex(wide, "again, WIDE, no such STEP", () -> wide.again(1));
        CHECKS.dueArgument(wide, "comesBack, WIDE, n is 16", () -> wide.comesBack(16));
        Pebblegate wideTree = Nets.stairs(20);
        CHECKS.dueIndex(wideTree, "most, WIDE, no such PLACE", () -> wideTree.most(1));
    }

    // ---- the NET

    private static void newNet() {
        Pebblegate x = new Pebblegate();
        CHECKS.due("a new object", Nets.state(x), "4 PLACES, 0 STEPS: now 0 0 0 0, kept 0 0 0 0, kept 0 0 0 0, kept 0 0 0 0, kept 0 0 0 0");
        CHECKS.due("a new object has counted nothing", Nets.counts(x), Nets.counts(0, 0, 0));
        Pebblegate other = Nets.full(7);
        CHECKS.due("objects share nothing", new Pebblegate().text() + other.text(), "0 0 0 07 7 7 7 7 7 7 7");
    }

    private static void beginLeavesNothing() {
        for (int places = 1; places <= 8; places++) {
            Pebblegate x = Nets.full(99);
            for (int k = 0; k < 4; k++) {
                x.keep(k);
            }
            CHECKS.due("begin tells how many PLACES there were", x.begin(places), 8);
            CHECKS.due("begin anew", x.house(3) + " PLACES, " + x.house(4) + " STEPS, " + x.house(5) + " MARKS", places + " PLACES, 0 STEPS, 0 MARKS");
            String zeros = "0 0 0 0 0 0 0 0".substring(0, 2 * places - 1);
            CHECKS.due("begin: text", x.text(), zeros);
            for (int k = 0; k < 4; k++) {
                CHECKS.due("begin: keptText", x.keptText(k), zeros);
            }
            CHECKS.due("begin again tells these", x.begin(8), places);
            CHECKS.due("what was ahead does not come back", x.text() + x.keptText(3), "0 0 0 0 0 0 0 00 0 0 0 0 0 0 0");
            for (int s = 0; s < 8; s++) {
                CHECKS.due("STEPS begin anew", x.step(), s);
                CHECKS.due("a new STEP touches nothing", x.touches(s), 0);
            }
        }
    }

    private static void eightSteps() {
        Pebblegate x = new Pebblegate();
        x.begin(1);
        for (int s = 0; s < 8; s++) {
            int number = s;
            CHECKS.dueDone(x, "step " + s, () -> x.step(), number);
        }
        CHECKS.dueRefused(x, "the ninth STEP", () -> x.step());
        CHECKS.dueRefused(x, "the ninth STEP again", () -> x.step());
        CHECKS.due("strike one of 8", x.strike(0), 7);
        CHECKS.dueDone(x, "a STEP where there are 7", () -> x.step(), 7);
        CHECKS.dueRefused(x, "and 8 again", () -> x.step());
    }

    private static void arcsOfEachSize() {
        Pebblegate x = new Pebblegate();
        x.step();
        int lastTake = 0;
        int lastLay = 0;
        for (int take = 0; take <= 3; take++) {
            for (int lay = 0; lay <= 3; lay++) {
                int due = take != lastTake || lay != lastLay ? 1 : 0;
                CHECKS.due("arc " + take + ", " + lay, x.arc(0, 3, take, lay), due);
                CHECKS.due("the same arc again", x.arc(0, 3, take, lay), 0);
                CHECKS.due("its TAKE", x.ofArc(0, 3, 0), take);
                CHECKS.due("its LAY", x.ofArc(0, 3, 1), lay);
                CHECKS.due("its LAY less TAKE", x.ofArc(0, 3, 2), lay - take);
                lastTake = take;
                lastLay = lay;
            }
        }
        CHECKS.due("TAKE alone another one", x.arc(0, 3, 2, 3), 1);
        CHECKS.due("LAY alone another one", x.arc(0, 3, 2, 1), 1);
        CHECKS.due("other PLACES stay", x.touches(0), 8);
    }

    private static void strikeTheFirstAndTheLast() {
        Pebblegate x = Nets.full(0);
        CHECKS.due("strike the first of 8", x.strike(0), 7);
        for (int s = 0; s < 7; s++) {
            int own = s + 1;
            int next = (s + 2) % 8;
            CHECKS.due("numbers are 1 less", x.touches(s), (1 << own) | (1 << next));
            CHECKS.due("TAKE comes along", x.ofArc(s, own, 0), 1);
            CHECKS.due("LAY comes along", x.ofArc(s, next, 1), 2);
        }
        CHECKS.due("strike the last of 7", x.strike(6), 6);
        CHECKS.due("those ahead stay", x.touches(5), 64 + 128);
        CHECKS.due("a new STEP behind them", x.step(), 6);
        CHECKS.due("a new STEP touches nothing", x.touches(6), 0);
        CHECKS.due("a new STEP can go", x.going(), 64);
        Pebblegate one = Nets.stairs(5);
        CHECKS.due("strike the only one", one.strike(0), 0);
        CHECKS.due("MARKS stay", one.text(), "5");
    }

    private static void turnCountsEachStepOnce() {
        Pebblegate x = Nets.full(0);
        CHECKS.due("turn of 8 STEPS, each other at two PLACES", x.turn(), 8);
        CHECKS.due("TAKE and LAY are exchanged", x.ofArc(7, 7, 0) + "/" + x.ofArc(7, 7, 1) + " " + x.ofArc(7, 0, 0) + "/" + x.ofArc(7, 0, 1), "0/1 2/0");
        CHECKS.due("turn back", x.turn(), 8);
        CHECKS.due("turned twice", x.ofArc(7, 7, 0) + "/" + x.ofArc(7, 7, 1) + " " + x.ofArc(7, 0, 0) + "/" + x.ofArc(7, 0, 1), "1/0 0/2");
        Pebblegate alike = Nets.net(8, new int[][] {new int[16], {3, 3, 0, 0, 0, 0, 0, 0, 0, 0, 0, 0, 0, 0, 2, 2}});
        CHECKS.due("turn where TAKE is as LAY", alike.turn(), 0);
        Pebblegate crosswise = Nets.net(8, new int[][] {{1, 2, 0, 0, 0, 0, 0, 0, 0, 0, 0, 0, 0, 0, 2, 1}, {0, 0, 0, 0, 0, 0, 0, 0, 0, 0, 0, 0, 0, 0, 0, 1}});
        CHECKS.due("turn, other at the last PLACE alone, and crosswise", crosswise.turn(), 2);
        crosswise.set(7, 5);
        crosswise.keep(1);
        crosswise.turn();
        CHECKS.due("turn leaves MARKS", crosswise.text() + crosswise.keptText(1), "0 0 0 0 0 0 0 50 0 0 0 0 0 0 5");
    }

    // ---- MARKS

    private static void addUpToTheEnds() {
        for (int marks = 0; marks <= 99; marks++) {
            Pebblegate x = new Pebblegate();
            int start = marks;
            int missing = 99 - marks;
            CHECKS.due("set " + marks, x.set(3, marks), 0);
            CHECKS.due("add nothing", x.add(3, 0), start);
            if (missing < 99) {
                CHECKS.dueRefused(x, "add to 100 from " + marks, () -> x.add(3, missing + 1));
            }
            CHECKS.due("add to 99 from " + marks, x.add(3, missing), 99);
            CHECKS.due("set tells how many it had", x.set(3, start), 99);
            if (marks < 99) {
                CHECKS.dueRefused(x, "add to -1 from " + marks, () -> x.add(3, -start - 1));
            }
            CHECKS.due("add to 0 from " + marks, x.add(3, -start), 0);
            CHECKS.due("other PLACES stay", x.text(), "0 0 0 0");
        }
    }

    /** go and back by the same MARKS: the STEP that goes back has TAKE and LAY exchanged. */
    private static Pebblegate oneStep(boolean isBack, int take, int lay, int marks) {
        return Nets.net(1, new int[][] {isBack ? new int[] {lay, take} : new int[] {take, lay}}, marks);
    }

    private static int goes(Pebblegate x, int step, boolean isBack) {
        return isBack ? x.back(step) : x.go(step);
    }

    private static void goesAtJustItsTake() {
        for (boolean isBack : new boolean[] {false, true}) {
            for (int take = 0; take <= 3; take++) {
                for (int lay = 0; lay <= 3; lay++) {
                    String what = (isBack ? "back " : "go ") + take + ", " + lay;
                    Pebblegate x = oneStep(isBack, take, lay, take);
                    CHECKS.due(what + ": can at its TAKE", x.can(0, isBack), true);
                    CHECKS.dueDone(x, what + " at its TAKE", () -> goes(x, 0, isBack), lay);
                    CHECKS.due(what + ": MARKS", x.marks(0), lay);
                    if (take > 0) {
                        Pebblegate less = oneStep(isBack, take, lay, take - 1);
                        CHECKS.due(what + ": can not at 1 less", less.can(0, isBack), false);
                        CHECKS.dueRefused(less, what + " at 1 less", () -> goes(less, 0, isBack));
                    }
                }
            }
        }
    }

    private static void eachPlaceMustHaveTheTake() {
        for (boolean isBack : new boolean[] {false, true}) {
            for (int lacking = 0; lacking < 8; lacking++) {
                Pebblegate x = new Pebblegate();
                x.begin(8);
                x.step();
                for (int p = 0; p < 8; p++) {
                    x.arc(0, p, isBack ? 0 : 2, isBack ? 2 : 0);
                    x.set(p, p == lacking ? 1 : 2);
                }
                CHECKS.due("a TAKE is missing at PLACE " + lacking, x.can(0, isBack), false);
                CHECKS.due("none is going then", !isBack && x.going() != 0, false);
                CHECKS.dueRefused(x, "it goes where a TAKE is missing", () -> goes(x, 0, isBack));
                x.add(lacking, 1);
                CHECKS.due("no TAKE is missing", x.can(0, isBack), true);
                CHECKS.dueDone(x, "it goes where none is missing", () -> goes(x, 0, isBack), 0);
                CHECKS.due("it takes at each PLACE", x.text(), "0 0 0 0 0 0 0 0");
            }
        }
    }

    private static void goesUpTo99() {
        for (boolean isBack : new boolean[] {false, true}) {
            for (int take = 0; take <= 3; take++) {
                for (int lay = take; lay <= 3; lay++) {
                    String what = (isBack ? "back " : "go ") + take + ", " + lay;
                    int last = 99 - (lay - take);
                    Pebblegate x = oneStep(isBack, take, lay, last);
                    CHECKS.dueDone(x, what + " up to 99", () -> goes(x, 0, isBack), 99);
                    for (int marks = last + 1; marks <= 99; marks++) {
                        Pebblegate above = oneStep(isBack, take, lay, marks);
                        CHECKS.dueRefused(above, what + " above 99 from " + marks, () -> goes(above, 0, isBack));
                        CHECKS.due(what + ": can, whatever many come", above.can(0, isBack), true);
                    }
                }
            }
            Pebblegate last = Nets.net(8, new int[][] {{1, 1, 0, 0, 0, 0, 0, 0, 0, 0, 0, 0, 0, 0, 0, 0}}, 5, 0, 0, 0, 0, 0, 0, 99);
            last.arc(0, 7, isBack ? 1 : 0, isBack ? 0 : 1);
            CHECKS.dueRefused(last, "above 99 at the last PLACE", () -> goes(last, 0, isBack));
        }
    }

    private static void sumsOfGoing() {
        Pebblegate x = Nets.net(8, new int[][] {new int[16]}, 99, 99, 99, 99, 99, 99, 99, 99);
        CHECKS.due("the MARKS of 8 PLACES of 99", x.go(0), 792);
        CHECKS.due("back, too", x.back(0), 792);
        CHECKS.due("house, too", x.house(5), 792);
        Pebblegate none = new Pebblegate();
        none.step();
        CHECKS.due("no MARKS", none.go(0), 0);
    }

    private static void runsAsLongAsOneCan() {
        Pebblegate x = Nets.stairs(30);
        CHECKS.dueDone(x, "run(0) where one can", () -> x.run(0), 0);
        CHECKS.due("run(0) changes nothing", x.text(), "30");
        CHECKS.dueDone(x, "run(20)", () -> x.run(20), 20);
        CHECKS.due("20 went", x.text(), "10");
        CHECKS.dueDone(x, "run(9), one more could", () -> x.run(9), 9);
        CHECKS.dueDone(x, "run(20), one can", () -> x.run(20), 1);
        CHECKS.dueDone(x, "run(20), none can", () -> x.run(20), 0);
        CHECKS.due("at the end", x.text(), "0");
        Pebblegate least = Nets.net(3, new int[][] {{0, 1, 2, 0, 0, 0}, {1, 0, 0, 1, 0, 0}, {0, 0, 0, 1, 1, 0}}, 0, 1, 2);
        CHECKS.due("the STEP with the least number each time", least.run(3), 3);
        // STEP 2 (0 2 1), then STEP 0 (1 0 1), then STEP 1 ahead of STEP 2.
        CHECKS.due("and no other", least.text(), "0 1 1");
    }

    private static void runPassesByWhatGoesAbove99() {
        Pebblegate x = Nets.net(2, new int[][] {{0, 3, 0, 0}, {0, 0, 0, 2}}, 93, 94);
        CHECKS.dueDone(x, "run up to 99", () -> x.run(2), 2);
        CHECKS.due("STEP 0 goes to just 99", x.text(), "99 94");
        CHECKS.dueDone(x, "run passes by STEP 0", () -> x.run(20), 2);
        CHECKS.due("STEP 1 goes, but not to 100", x.text(), "99 98");
        CHECKS.dueDone(x, "run where each would go above 99", () -> x.run(20), 0);
        CHECKS.due("though each can", x.going(), 3);
        CHECKS.due("run is never REFUSED", x.house(1), 0);
    }

    // ---- KEPT MARKINGS

    private static void fourKeptMarkings() {
        Pebblegate x = new Pebblegate();
        x.begin(8);
        for (int k = 0; k < 4; k++) {
            x.set(7, 10 + k);
            CHECKS.due("keep, other at the last PLACE alone", x.keep(k), 1);
            CHECKS.due("keep, the same", x.keep(k), 0);
        }
        x.set(7, 0);
        for (int k = 0; k < 4; k++) {
            CHECKS.due("each one is KEPT by itself", x.keptText(k), "0 0 0 0 0 0 0 " + (10 + k));
            CHECKS.due("recall, other at the last PLACE alone", x.recall(k), 1);
            CHECKS.due("recall, the same", x.recall(k), 0);
            CHECKS.due("the present one", x.text(), x.keptText(k));
        }
        x.add(0, 1);
        CHECKS.due("what is recalled is no more bound to it", x.keptText(3), "0 0 0 0 0 0 0 13");
    }

    // ---- what is asked of the NET

    private static void touchesByTakeOrByLay() {
        for (int p = 0; p < 8; p++) {
            Pebblegate x = new Pebblegate();
            x.begin(8);
            x.step();
            CHECKS.due("touches nothing", x.touches(0), 0);
            x.arc(0, p, 1, 0);
            CHECKS.due("touches by TAKE", x.touches(0), 1 << p);
            x.arc(0, p, 0, 1);
            CHECKS.due("touches by LAY", x.touches(0), 1 << p);
            x.arc(0, p, 3, 3);
            CHECKS.due("touches by both, though nothing changes", x.touches(0), 1 << p);
            x.arc(0, p, 0, 0);
            CHECKS.due("touches no more", x.touches(0), 0);
        }
        Pebblegate all = Nets.net(8, new int[][] {{1, 0, 0, 1, 1, 1, 3, 0, 0, 3, 2, 2, 1, 2, 2, 1}});
        CHECKS.due("touches all 8", all.touches(0), 255);
    }

    private static void apart() {
        int[][] arcs = {{1, 0}, {0, 1}, {2, 2}};
        for (int[] one : arcs) {
            for (int[] other : arcs) {
                Pebblegate x = Nets.net(8, new int[][] {new int[16], new int[16]});
                x.arc(0, 7, one[0], one[1]);
                CHECKS.due("apart from one that touches nothing", x.areApart(0, 1), true);
                x.arc(1, 6, other[0], other[1]);
                CHECKS.due("apart at two PLACES", x.areApart(0, 1), true);
                x.arc(1, 7, other[0], other[1]);
                CHECKS.due("not apart at the last PLACE", x.areApart(0, 1), false);
                CHECKS.due("nor the other way", x.areApart(1, 0), false);
            }
        }
        Pebblegate same = Nets.net(1, new int[][] {{0, 0}, {1, 1}});
        CHECKS.due("one that touches nothing, with itself", same.areApart(0, 0), true);
        CHECKS.due("one that touches a PLACE, with itself", same.areApart(1, 1), false);
    }

    private static void goingOfEachStep() {
        CHECKS.due("going, no STEPS", new Pebblegate().going(), 0);
        Pebblegate x = Nets.full(0);
        CHECKS.due("going, no MARKS", x.going(), 0);
        for (int s = 0; s < 8; s++) {
            x.set(s, 1);
            CHECKS.due("going, one more", x.going(), (2 << s) - 1);
        }
        x.set(0, 0);
        CHECKS.due("going, all but the first", x.going(), 254);
        CHECKS.due("going at 99, whatever many come", Nets.full(99).going(), 255);
    }
}
