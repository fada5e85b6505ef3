/**
 * The edges of "2. What is reached" and of the promises 14 and 23 to 31: no STEPS, no MARKS, just 16
 * MARKINGS and just 17, MARKS above 99, WAYS of which the first one counts, rings of one alone, and the
 * NET TURNED that is WIDE.
 */
final class ReachEdgesTest {
    private static final Checks CHECKS = new Checks();

    public static void main(String[] args) {
        noSteps();
        noMarks();
        sixteenInARow();
        seventeenInARow();
        sixteenByFourSteps();
        withoutBound();
        above99();
        numberedStepByStep();
        whatIsMetAgain();
        wayOfNoSteps();
        lesserStepFirst();
        shortestFirst();
        deepeningOfTwoSteps();
        longestWays();
        notReached();
        followGoesTheWay();
        followAbove99();
        deadOnes();
        ringsAndWhatLeadsToThem();
        ringOfOneAlone();
        ringOfSixteen();
        stepBetweenRings();
        chancesOfNoneAndOfAll();
        comesBackFromEach();
        comesBackWhereTurnedIsWide();
        ringsAndComesBackAbove99();
        CHECKS.end();
    }

    // ---- what is empty

    private static void noSteps() {
        Pebblegate x = new Pebblegate();
        x.set(1, 99);
        x.keep(2);
        CHECKS.due("no STEPS: reached", x.reached(), 1);
        CHECKS.due("no STEPS: the present one", x.reachedText(0), "0 99 0 0");
        CHECKS.due("no STEPS: no other one", x.reachedText(1), "");
        CHECKS.due("no STEPS: its number", x.number(2), 0);
        CHECKS.due("no STEPS: another one has none", x.number(0), -1);
        CHECKS.due("no STEPS: way to it", x.way(2, 0) + x.way(2, 1), "");
        CHECKS.due("no STEPS: way to another one", x.way(0, 0) + x.way(0, 1), "nonenone");
        CHECKS.due("no STEPS: DEAD", x.deads(), 1);
        CHECKS.due("no STEPS: no ring", x.rings(), 0);
        CHECKS.due("no STEPS: comes back", x.comesBack(0), 1);
        CHECKS.due("no STEPS: none with number 1", x.comesBack(1), -1);
        CHECKS.dueDone(x, "no STEPS: follow to it", () -> x.follow(2), 0);
        CHECKS.dueRefused(x, "no STEPS: follow to another one", () -> x.follow(0));
        x.begin(1);
        CHECKS.due("one PLACE, no STEPS: reached", x.reached() + " " + x.reachedText(0) + " " + x.number(3), "1 0 0");
    }

    private static void noMarks() {
        Pebblegate takes = Nets.stairs(0);
        CHECKS.due("no MARKS: reached", takes.reached(), 1);
        CHECKS.due("no MARKS: DEAD", takes.deads(), 1);
        CHECKS.due("no MARKS: no chance", takes.chances(0), 0);
        CHECKS.due("no MARKS: not again", takes.again(0), 0);
        Pebblegate idle = Nets.net(1, new int[][] {new int[2]}, 0);
        CHECKS.due("nothing taken: reached", idle.reached(), 1);
        CHECKS.due("nothing taken: not DEAD", idle.deads(), 0);
        CHECKS.due("nothing taken: a chance", idle.chances(0), 1);
        CHECKS.due("nothing taken: again", idle.again(0), 1);
        CHECKS.due("nothing taken: a ring", idle.rings(), 1);
    }

    // ---- what is full

    private static void sixteenInARow() {
        Pebblegate x = Nets.stairs(15);
        CHECKS.due("16: reached", x.reached(), 16);
        for (int n = 0; n < 16; n++) {
            CHECKS.due("16: reachedText", x.reachedText(n), String.valueOf(15 - n));
        }
        CHECKS.due("16: number of the last", x.number(0), 15);
        CHECKS.due("16: the longest WAY", x.way(0, 0), "0 0 0 0 0 0 0 0 0 0 0 0 0 0 0");
        CHECKS.due("16: DEAD", x.deads(), 1 << 15);
        CHECKS.due("16: chances", x.chances(0), 15);
        CHECKS.due("16: again", x.again(0), 0);
        CHECKS.due("16: rings", x.rings(), 0);
        CHECKS.due("16: isSound", x.isSound(), true);
        CHECKS.dueDone(x, "16: follow", () -> x.follow(0), 15);
        CHECKS.due("16: followed", x.text(), "0");
    }

    private static void seventeenInARow() {
        Pebblegate x = Nets.stairs(16);
        x.keep(1);
        CHECKS.due("17: reached", x.reached(), -9);
        for (int n = 0; n < 16; n++) {
            CHECKS.due("17: reachedText", x.reachedText(n), "?");
            CHECKS.due("17: comesBack", x.comesBack(n), -9);
        }
        for (int k = 0; k < 4; k++) {
            CHECKS.due("17: number", x.number(k), -9);
            CHECKS.due("17: way by layers", x.way(k, 0), "?");
        }
        CHECKS.due("17: deads", x.deads(), -9);
        CHECKS.due("17: chances", x.chances(0), -9);
        CHECKS.due("17: again", x.again(0), -9);
        CHECKS.due("17: rings", x.rings(), -9);
        CHECKS.due("17: isSound", x.isSound(), true);
        CHECKS.due("17: the TREE is none the less told", x.nodes(), 17);
        CHECKS.dueRefused(x, "17: follow", () -> x.follow(0));
        CHECKS.dueRefused(x, "17: follow to the present one", () -> x.follow(1));
        x.go(0);
        CHECKS.due("17, then 16", x.reached(), 16);
        x.back(0);
        CHECKS.due("17 again", x.reached(), -9);
    }

    /** Four marks, each of which can go over: 16 MARKINGS; STEP 4 is the caller's. */
    private static Pebblegate fourMarks() {
        Pebblegate x = new Pebblegate();
        x.begin(8);
        for (int s = 0; s < 4; s++) {
            x.step();
            x.arc(s, s, 1, 0);
            x.arc(s, s + 4, 0, 1);
            x.set(s, 1);
        }
        x.step();
        for (int p = 4; p < 8; p++) {
            x.arc(4, p, 1, 0);
        }
        return x;
    }

    private static void sixteenByFourSteps() {
        Pebblegate x = fourMarks();
        CHECKS.due("17, the last one of the last one", x.reached(), -9);
        CHECKS.due("17, the first one is asked", x.reachedText(0), "?");
        x.arc(4, 0, 0, 3);
        CHECKS.due("more than 17", x.reached(), -9);
        x.strike(4);
        CHECKS.due("16 by four STEPS", x.reached(), 16);
        CHECKS.due("the last of 16", x.reachedText(15), "0 0 0 0 1 1 1 1");
        CHECKS.due("the first of the second layer", x.reachedText(5), "0 0 1 1 1 1 0 0");
        CHECKS.due("DEAD of 16", x.deads(), 1 << 15);
        CHECKS.due("chances of 16", x.chances(3), 8);
        CHECKS.due("the NET TURNED from the last of 16", x.comesBack(15), 1);
        CHECKS.due("its TREE is WIDE", x.nodes(), -9);
    }

    private static void withoutBound() {
        Pebblegate x = Nets.spring();
        CHECKS.due("without bound: reached", x.reached(), -9);
        CHECKS.due("without bound: again", x.again(0), -9);
        CHECKS.dueRefused(x, "without bound: follow to the present one", () -> x.follow(0));
        x.keep(0);
        CHECKS.due("without bound: way to the present one, by layers", x.way(0, 0), "?");
        CHECKS.due("without bound: way to the present one, by DEEPENING", x.way(0, 1), "");
    }

    private static void above99() {
        Pebblegate x = Nets.net(2, new int[][] {{0, 3, 1, 0}}, 99, 15);
        CHECKS.due("above 99: reached", x.reached(), 16);
        CHECKS.due("above 99: the last", x.reachedText(15), "144 0");
        CHECKS.due("above 99: most", x.most(0), 144);
        CHECKS.due("above 99: isSound", x.isSound(), true);
        x.set(1, 16);
        CHECKS.due("above 99: WIDE", x.reached(), -9);
        CHECKS.due("above 99: the TREE", x.nodes() + " " + x.most(0), "17 147");
    }

    // ---- their numbers

    private static void numberedStepByStep() {
        Pebblegate x = Nets.net(4, new int[][] {
            {1, 0, 0, 0, 0, 1, 0, 0}, {1, 0, 0, 1, 0, 0, 0, 0}, {0, 0, 1, 0, 0, 0, 0, 1}, {0, 0, 0, 1, 1, 0, 0, 0}
        }, 1, 0, 0, 0);
        String[] due = {"1 0 0 0", "0 0 1 0", "0 1 0 0", "0 0 0 1", ""};
        for (int n = 0; n < due.length; n++) {
            CHECKS.due("numbered STEP by STEP", x.reachedText(n), due[n]);
        }
        Nets.keepAs(x, 0, 0, 0, 0, 1);
        Nets.keepAs(x, 1, 0, 1, 0, 0);
        Nets.keepAs(x, 2, 0, 0, 1, 0);
        Nets.keepAs(x, 3, 1, 0, 0, 0);
        CHECKS.due("their numbers", x.number(0) + " " + x.number(1) + " " + x.number(2) + " " + x.number(3), "3 2 1 0");
    }

    private static void whatIsMetAgain() {
        Pebblegate x = Nets.net(2, new int[][] {{1, 0, 0, 1}, {1, 0, 0, 1}, {0, 1, 1, 0}, {0, 0, 0, 0}}, 7, 8);
        // From 15 and 0 to 0 and 15: what is met again is counted once.
        CHECKS.due("met again: reached", x.reached(), 16);
        CHECKS.due("met again: numbers go both ways", x.reachedText(1) + ", " + x.reachedText(2) + ", " + x.reachedText(3), "6 9, 8 7, 5 10");
        x.set(1, 9);
        CHECKS.due("met again: 17", x.reached(), -9);
    }

    // ---- WAYS

    private static void wayOfNoSteps() {
        Pebblegate x = Nets.wheel();
        x.keep(0);
        CHECKS.due("the WAY of no STEPS, though a ring comes there, too", x.way(0, 0) + x.way(0, 1), "");
        CHECKS.dueDone(x, "follow the WAY of no STEPS", () -> x.follow(0), 0);
        CHECKS.due("nothing is other", x.text(), "1 0 0");
    }

    private static void lesserStepFirst() {
        // To PLACE 3 by PLACE 1 (STEPS 0, 3) or by PLACE 2 (STEPS 1, 2).
        Pebblegate x = Nets.net(4, new int[][] {
            {1, 0, 0, 1, 0, 0, 0, 0}, {1, 0, 0, 0, 0, 1, 0, 0}, {0, 0, 0, 0, 1, 0, 0, 1}, {0, 0, 1, 0, 0, 0, 0, 1}
        }, 1, 0, 0, 0);
        Nets.keepAs(x, 0, 0, 0, 0, 1);
        CHECKS.due("the lesser STEP where two are unlike first, by layers", x.way(0, 0), "0 3");
        CHECKS.due("the lesser STEP where two are unlike first, by DEEPENING", x.way(0, 1), "0 3");
        // Two STEPS that do the same: the lesser one, each time.
        Pebblegate twins = Nets.net(1, new int[][] {{3, 0}, {1, 0}, {1, 0}}, 2);
        CHECKS.due("of STEPS that do the same the lesser one", twins.way(0, 0) + ", " + twins.way(0, 1), "1 1, 1 1");
        Nets.keepAs(twins, 1, 1);
        CHECKS.due("and for one STEP, too", twins.way(1, 0) + ", " + twins.way(1, 1), "1, 1");
    }

    private static void shortestFirst() {
        Pebblegate x = Nets.net(1, new int[][] {{0, 0}, {1, 0}, {2, 0}}, 4);
        Nets.keepAs(x, 1, 2);
        CHECKS.due("one STEP ahead of two lesser ones", x.way(1, 0) + ", " + x.way(1, 1), "2, 2");
        CHECKS.due("two STEPS ahead of more", x.way(0, 0) + ", " + x.way(0, 1), "2 2, 2 2");
        Nets.keepAs(x, 1, 1);
        CHECKS.due("two STEPS, the lesser first", x.way(1, 0) + ", " + x.way(1, 1), "1 2, 1 2");
        Pebblegate last = Nets.full(0);
        last.set(7, 2);
        for (int p = 0; p < 8; p++) {
            last.arc(7, p, p == 7 ? 1 : 0, 0);
        }
        CHECKS.due("two STEPS of number 7", last.way(0, 0) + ", " + last.way(0, 1), "7 7, 7 7");
    }

    private static void deepeningOfTwoSteps() {
        Pebblegate x = Nets.stairs(3);
        String[] byLayers = {"0 0 0", "0 0", "0", ""};
        String[] byDeepening = {"none", "0 0", "0", ""};
        for (int marks = 0; marks <= 3; marks++) {
            Nets.keepAs(x, 0, marks);
            CHECKS.due("by layers to " + marks, x.way(0, 0), byLayers[marks]);
            CHECKS.due("by DEEPENING to " + marks, x.way(0, 1), byDeepening[marks]);
        }
        Pebblegate wide = Nets.stairs(99);
        String[] fromFarUp = {"none", "0 0", "0", "", "none"};
        for (int i = 0; i < fromFarUp.length; i++) {
            Nets.keepAs(wide, 0, i == 4 ? 0 : 96 + i);
            CHECKS.due("WIDE, by DEEPENING", wide.way(0, 1), fromFarUp[i]);
            CHECKS.due("WIDE, by layers", wide.way(0, 0), "?");
        }
        Pebblegate hill = Nets.hill(99);
        Nets.keepAs(hill, 0, 99, 0, 0);
        CHECKS.due("by DEEPENING above 99", hill.way(0, 1), "0 1");
        CHECKS.due("by layers above 99", hill.way(0, 0), "0 1");
    }

    private static void longestWays() {
        for (int marks = 0; marks <= 15; marks++) {
            Pebblegate x = Nets.stairs(marks);
            CHECKS.due("as many STEPS as MARKS", x.way(0, 0), "0 0 0 0 0 0 0 0 0 0 0 0 0 0 0".substring(0, Math.max(0, 2 * marks - 1)));
            int length = marks;
            CHECKS.dueDone(x, "follow " + marks, () -> x.follow(0), length);
        }
    }

    private static void notReached() {
        Pebblegate x = Nets.stairs(15);
        Nets.keepAs(x, 1, 16);
        CHECKS.due("one more than at first: number", x.number(1), -1);
        CHECKS.due("one more than at first: way", x.way(1, 0) + ", " + x.way(1, 1), "none, none");
        CHECKS.dueRefused(x, "one more than at first: follow", () -> x.follow(1));
        Pebblegate elsewhere = Nets.wheel();
        Nets.keepAs(elsewhere, 0, 1, 0, 1);
        CHECKS.due("other at the last PLACE alone: number", elsewhere.number(0), -1);
        CHECKS.dueRefused(elsewhere, "other at the last PLACE alone: follow", () -> elsewhere.follow(0));
    }

    // ---- follow

    private static void followGoesTheWay() {
        Pebblegate x = Nets.wheel();
        for (int k = 1; k < 4; k++) {
            Nets.keepAs(x, k, k == 3 ? 1 : 0, k == 1 ? 1 : 0, k == 2 ? 1 : 0);
        }
        CHECKS.dueDone(x, "follow one STEP", () -> x.follow(1), 1);
        CHECKS.due("to PLACE 1", x.text(), "0 1 0");
        CHECKS.dueDone(x, "follow two STEPS", () -> x.follow(3), 2);
        CHECKS.due("to PLACE 0", x.text(), "1 0 0");
        CHECKS.dueDone(x, "follow two other STEPS", () -> x.follow(2), 2);
        CHECKS.due("to PLACE 2", x.text(), "0 0 1");
        CHECKS.due("what is KEPT stays", x.keptText(1) + ", " + x.keptText(2) + ", " + x.keptText(3), "0 1 0, 0 0 1, 1 0 0");
        CHECKS.dueRefused(x, "follow to no MARKS", () -> x.follow(0));
    }

    private static void followAbove99() {
        for (int marks = 95; marks <= 99; marks++) {
            Pebblegate hill = Nets.hill(marks);
            Nets.keepAs(hill, 0, marks, 0, 0);
            if (marks <= 96) {
                CHECKS.dueDone(hill, "follow over a hill of " + (marks + 3), () -> hill.follow(0), 2);
                CHECKS.due("over the hill", hill.text(), marks + " 0 0");
            } else {
                CHECKS.dueRefused(hill, "follow over a hill of " + (marks + 3), () -> hill.follow(0));
            }
        }

        // Above 99 elsewhere, but not on the way.
        Pebblegate beside = Nets.net(4, new int[][] {{0, 3, 1, 0, 0, 0, 0, 0}, {0, 0, 0, 0, 1, 0, 0, 1}}, 98, 1, 1, 0);
        Nets.keepAs(beside, 0, 98, 1, 0, 1);
        CHECKS.due("STEP 0 goes above 99", beside.reachedText(1), "101 0 1 0");
        CHECKS.dueDone(beside, "follow beside what is above 99", () -> beside.follow(0), 1);

        // The first of two shortest rows goes above 99 (by 1, 2 and 0, 3), the second does not.
        int[][] high = {{0, 3, 1, 0, 0, 1, 0, 0, 0, 0}, {3, 0, 0, 0, 1, 0, 0, 0, 0, 1}};
        int[][] flat = {{0, 0, 1, 0, 0, 0, 0, 1, 0, 0}, {0, 0, 0, 0, 0, 0, 1, 0, 0, 1}};
        Pebblegate highFirst = Nets.net(5, new int[][] {high[0], flat[0], flat[1], high[1]}, 97, 1);
        Nets.keepAs(highFirst, 0, 97, 0, 0, 0, 1);
        CHECKS.due("the WAY is the first one", highFirst.way(0, 0), "0 3");
        CHECKS.dueRefused(highFirst, "follow, the first one goes above 99", () -> highFirst.follow(0));
        Pebblegate flatFirst = Nets.net(5, new int[][] {flat[0], high[0], high[1], flat[1]}, 97, 1);
        Nets.keepAs(flatFirst, 0, 97, 0, 0, 0, 1);
        CHECKS.due("the WAY is the first one, too", flatFirst.way(0, 0), "0 3");
        CHECKS.dueDone(flatFirst, "follow, the first one stays below", () -> flatFirst.follow(0), 2);
        CHECKS.due("followed", flatFirst.text(), "97 0 0 0 1");

        // What was asked before does not matter: a WAY that goes above 99 behind where this one ends.
        Pebblegate onward = Nets.net(4, new int[][] {
            {0, 0, 1, 0, 0, 1, 0, 0}, {0, 3, 0, 0, 1, 0, 0, 1}, {3, 0, 0, 0, 0, 0, 1, 0}
        }, 98, 1);
        Nets.keepAs(onward, 0, 98, 0, 0, 0);
        Nets.keepAs(onward, 1, 98, 0, 1, 0);
        CHECKS.due("a WAY above 99", onward.way(0, 0), "0 1 2");
        CHECKS.dueDone(onward, "follow a part of it", () -> onward.follow(1), 1);
        CHECKS.dueRefused(onward, "follow the rest of it", () -> onward.follow(0));

        // A longer row stays below 99: the WAY is the shortest one none the less.
        Pebblegate longer = Nets.net(6, new int[][] {
            {0, 0, 1, 0, 0, 0, 0, 1, 0, 0, 0, 0}, {0, 0, 0, 0, 0, 0, 1, 0, 0, 0, 0, 1}, {0, 0, 0, 0, 0, 1, 0, 0, 0, 0, 1, 0},
            {0, 3, 1, 0, 0, 0, 0, 0, 0, 1, 0, 0}, {3, 0, 0, 0, 0, 1, 0, 0, 1, 0, 0, 0}
        }, 97, 1);
        Nets.keepAs(longer, 0, 97, 0, 1, 0, 0, 0);
        CHECKS.due("the WAY is the shortest one", longer.way(0, 0), "3 4");
        CHECKS.dueRefused(longer, "follow, the shortest one goes above 99", () -> longer.follow(0));
    }

    // ---- DEAD, rings, again, chances

    private static void deadOnes() {
        CHECKS.due("just the TAKE: not DEAD", Nets.net(1, new int[][] {{3, 0}}, 3).deads(), 2);
        CHECKS.due("1 less than the TAKE: DEAD", Nets.net(1, new int[][] {{3, 0}}, 2).deads(), 1);
        CHECKS.due("where a STEP goes above 99: not DEAD", Nets.net(2, new int[][] {{0, 3, 1, 0}}, 99, 1).deads(), 2);
        Pebblegate x = Nets.full(0);
        CHECKS.due("8 STEPS, none can go", x.deads(), 1);
        Pebblegate last = Nets.net(1, new int[][] {{3, 0}, {3, 0}, {3, 0}, {3, 0}, {3, 0}, {3, 0}, {3, 0}, {2, 2}}, 2);
        CHECKS.due("the last of 8 STEPS can go", last.deads(), 0);
    }

    private static void ringsAndWhatLeadsToThem() {
        // PLACE 0 to 1, 1 to 2 and back, 2 to 3.
        Pebblegate x = Nets.net(4, new int[][] {
            {1, 0, 0, 1, 0, 0, 0, 0}, {0, 0, 1, 0, 0, 1, 0, 0}, {0, 0, 0, 1, 1, 0, 0, 0}, {0, 0, 0, 0, 1, 0, 0, 1}
        }, 1, 0, 0, 0);
        CHECKS.due("a ring of two", x.rings(), 6);
        CHECKS.due("what leads there, stands on it, leads away", x.again(0) + " " + x.again(1) + " " + x.again(2) + " " + x.again(3), "0 1 1 0");
        CHECKS.due("DEAD behind it", x.deads(), 8);
        CHECKS.due("no ring in a row", Nets.stairs(15).rings(), 0);
    }

    private static void ringOfOneAlone() {
        // STEP 1 changes nothing where there are 2 MARKS or more; STEP 0 takes them one by one.
        Pebblegate x = Nets.net(1, new int[][] {{1, 0}, {2, 2}}, 3);
        CHECKS.due("rings of one alone", x.rings(), 3);
        CHECKS.due("STEP 1 stands on them", x.again(1), 1);
        CHECKS.due("STEP 0 does not", x.again(0), 0);
        Pebblegate behind = Nets.net(2, new int[][] {{1, 0, 0, 1}, {0, 0, 1, 1}}, 1, 0);
        CHECKS.due("a ring of one alone behind the present one", behind.rings(), 2);
        CHECKS.due("STEP 1 stands on it", behind.again(1), 1);
    }

    private static void ringOfSixteen() {
        Pebblegate x = fourMarks();
        for (int p = 0; p < 4; p++) {
            x.arc(4, p, 0, 1);
        }
        CHECKS.due("16, all on rings: reached", x.reached(), 16);
        CHECKS.due("16, all on rings", x.rings(), 65535);
        CHECKS.due("none is DEAD", x.deads(), 0);
        for (int s = 0; s < 5; s++) {
            CHECKS.due("each STEP goes again and again", x.again(s), 1);
        }
        CHECKS.due("the last one has one chance", x.chances(4), 1);
        Pebblegate row = Nets.net(2, new int[][] {{1, 0, 0, 1}, {0, 3, 3, 0}}, 15, 0);
        CHECKS.due("a ring by a STEP of 3", row.rings() + " " + row.again(0) + " " + row.again(1), "65535 1 1");
    }

    private static void stepBetweenRings() {
        // PLACE 0 and 1 go round, PLACE 2 and 3 go round; STEP 2 leads from the one ring to the other.
        Pebblegate x = Nets.net(4, new int[][] {
            {1, 0, 0, 1, 0, 0, 0, 0}, {0, 1, 1, 0, 0, 0, 0, 0}, {0, 0, 1, 0, 0, 1, 0, 0}, {0, 0, 0, 0, 1, 0, 0, 1}, {0, 0, 0, 0, 0, 1, 1, 0}
        }, 1, 0, 0, 0);
        CHECKS.due("all are on rings", x.rings(), 15);
        CHECKS.due("but the STEP between goes just once", x.again(0) + " " + x.again(1) + " " + x.again(2) + " " + x.again(3) + " " + x.again(4), "1 1 0 1 1");
    }

    private static void chancesOfNoneAndOfAll() {
        Pebblegate x = Nets.net(1, new int[][] {{1, 0}, {0, 0}, {3, 0}}, 15);
        CHECKS.due("at all 16", x.chances(1), 16);
        CHECKS.due("at all but the last", x.chances(0), 15);
        CHECKS.due("with 3 or more", x.chances(2), 13);
        x.set(0, 2);
        CHECKS.due("at none", x.chances(2), 0);
        Pebblegate above = Nets.net(2, new int[][] {{0, 3, 1, 0}}, 99, 5);
        CHECKS.due("above 99, too", above.chances(0), 5);
    }

    // ---- comesBack

    private static void comesBackFromEach() {
        Pebblegate x = Nets.net(2, new int[][] {{1, 0, 0, 1}}, 15, 0);
        for (int n = 0; n < 16; n++) {
            CHECKS.due("comesBack " + n, x.comesBack(n), 1);
        }
        x.set(0, 14);
        CHECKS.due("the last number", x.comesBack(14), 1);
        CHECKS.due("none with that number", x.comesBack(15), -1);
        x.set(0, 0);
        CHECKS.due("the present one alone", x.comesBack(0), 1);
        CHECKS.due("no other one", x.comesBack(1), -1);
        x.comesBack(0);
        CHECKS.due("the NET is not TURNED by that", x.ofArc(0, 0, 0) + " " + x.ofArc(0, 0, 1), "1 0");
    }

    private static void comesBackWhereTurnedIsWide() {
        // 10 and 6: the NET TURNED goes on to 16 and 0.
        Pebblegate x = Nets.net(2, new int[][] {{1, 0, 0, 1}}, 10, 6);
        CHECKS.due("11 are REACHED", x.reached(), 11);
        for (int n = 0; n <= 9; n++) {
            CHECKS.due("the NET TURNED has " + (7 + n), x.comesBack(n), 1);
        }
        CHECKS.due("the NET TURNED has 17", x.comesBack(10), -9);
        CHECKS.due("none with that number", x.comesBack(11), -1);
        Pebblegate stairs = Nets.stairs(0);
        CHECKS.due("the NET TURNED is without bound", stairs.comesBack(0), -9);
        CHECKS.due("no such number, though the NET TURNED is WIDE", stairs.comesBack(1), -1);
        CHECKS.due("the NET is WIDE", Nets.spring().comesBack(0), -9);
        CHECKS.due("the NET is WIDE, the greatest number", Nets.spring().comesBack(15), -9);
    }

    /** What is REACHED may have MARKS above 99, forward and in the NET TURNED; an act can't go there. */
    private static void ringsAndComesBackAbove99() {
        // One at PLACE 1 becomes three at PLACE 0 and one at PLACE 2, and these become one at PLACE 3.
        int[][] steps = {{0, 3, 1, 0, 0, 1, 0, 0}, {3, 0, 0, 0, 1, 0, 0, 1}, {0, 0, 0, 1, 0, 0, 1, 0}};
        Pebblegate x = Nets.net(4, steps, 98, 1, 0, 0);
        CHECKS.due("round above 99: reached", x.reached() + ": " + x.reachedText(1) + ", " + x.reachedText(2), "3: 101 0 1 0, 98 0 0 1");
        CHECKS.due("round above 99: rings", x.rings(), 7);
        CHECKS.due("round above 99: again", x.again(0) + " " + x.again(1) + " " + x.again(2), "1 1 1");
        CHECKS.dueRefused(x, "round above 99: go", () -> x.go(0));
        x.strike(2);
        CHECKS.due("from above 99 the NET TURNED comes back", x.comesBack(1), 1);
        CHECKS.due("by what is above 99 the NET TURNED comes back", x.comesBack(2), 1);
        Nets.keepAs(x, 0, 98, 0, 0, 1);
        CHECKS.due("its number", x.number(0), 2);
        x.recall(0);
        CHECKS.dueRefused(x, "back above 99", () -> x.back(1));
    }
}
