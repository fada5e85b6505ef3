/**
 * The edges of "3. The tree" and "4. Weighings", and of the promises 32 to 37: the root alone, just 20
 * nodes and just 21, where MANY comes and where it does not, and WEIGHINGS that are none, all, or have
 * fractions.
 */
final class TreeEdgesTest {
    private static final Checks CHECKS = new Checks();

    public static void main(String[] args) {
        rootAlone();
        twentyNodes();
        wideTree();
        asOneAbove();
        marksAbove99();
        manyComes();
        manyStays();
        noMany();
        manyByOneFartherAbove();
        manyThatItHasGotAlready();
        manyAtEachPlace();
        noStepsWeighings();
        allTied();
        freeAndTied();
        leastWholeNumbers();
        weighingsOfEightPlaces();
        noneWithThatNumberAnyMore();
        weights();
        greatestWeights();
        CHECKS.end();
    }

    private static void dueTree(String what, Pebblegate x, int nodes, int manies) {
        CHECKS.due(what + ": nodes", x.nodes(), nodes);
        CHECKS.due(what + ": manies", x.manies(), manies);
        for (int p = 0; p < x.house(3); p++) {
            boolean isMany = manies >= 0 && (manies & (1 << p)) != 0;
            CHECKS.due(what + ": MANY at PLACE " + p, x.most(p) == -2, isMany);
            CHECKS.due(what + ": WIDE at PLACE " + p, x.most(p) == -9, nodes == -9);
        }
        CHECKS.due(what + ": isSound", x.isSound(), true);
    }

    // ---- how many nodes

    private static void rootAlone() {
        Pebblegate x = new Pebblegate();
        x.set(0, 99);
        dueTree("no STEPS", x, 1, 0);
        CHECKS.due("no STEPS: most", x.most(0) + " " + x.most(3), "99 0");
        dueTree("no MARKS", Nets.stairs(0), 1, 0);
        dueTree("a STEP that takes 1 more", Nets.net(1, new int[][] {{3, 0}}, 2), 1, 0);
        dueTree("a STEP that takes just so many", Nets.net(1, new int[][] {{3, 0}}, 3), 2, 0);
        CHECKS.due("most at the root", Nets.net(1, new int[][] {{3, 0}}, 3).most(0), 3);
    }

    private static void twentyNodes() {
        dueTree("19 in a row", Nets.stairs(18), 19, 0);
        dueTree("20 in a row", Nets.stairs(19), 20, 0);
        CHECKS.due("20 in a row: most", Nets.stairs(19).most(0), 19);
        dueTree("21 in a row", Nets.stairs(20), -9, -9);
        // Three STEPS alike, and one that can go once, or twice: 1 + 4 + 15 nodes, or 1 + 4 + 16.
        int[][] steps = {{1, 0, 0, 0}, {1, 0, 0, 0}, {1, 0, 0, 0}, {1, 0, 1, 0}};
        dueTree("20 in three layers", Nets.net(2, steps, 2, 1), 20, 0);
        dueTree("21 in three layers", Nets.net(2, steps, 2, 2), -9, -9);
        // Nodes of the same MARKING are nodes each: 15 of 4 MARKINGS, 31 of 5.
        int[][] twins = {{1, 0}, {1, 0}};
        dueTree("STEPS that do the same", Nets.net(1, twins, 3), 15, 0);
        dueTree("STEPS that do the same, one more", Nets.net(1, twins, 4), -9, -9);
        CHECKS.due("the NET is not WIDE for that", Nets.net(1, twins, 4).reached(), 5);
    }

    private static void wideTree() {
        Pebblegate x = Nets.stairs(20);
        CHECKS.dueAsked(x, "nodes, WIDE", () -> x.nodes(), -9);
        CHECKS.dueAsked(x, "most, WIDE", () -> x.most(0), -9);
        CHECKS.dueAsked(x, "manies, WIDE", () -> x.manies(), -9);
        CHECKS.due("isSound, WIDE", x.isSound(), true);
        CHECKS.dueDone(x, "one STEP on", () -> x.go(0), 19);
        dueTree("then no more WIDE", x, 20, 0);
        // MANY comes in the first layer; but there are 1 + 5 + 25 nodes.
        Pebblegate many = Nets.net(1, new int[][] {{0, 1}, {0, 1}, {0, 1}, {0, 1}, {0, 1}}, 0);
        dueTree("WIDE, with MANY in it", many, -9, -9);
        many.strike(4);
        dueTree("WIDE, with MANY in it, just 21", many, -9, -9);
        many.strike(3);
        dueTree("1 + 3 + 9 with MANY", many, 13, 1);
    }

    private static void asOneAbove() {
        dueTree("nothing comes of what is as the root", Nets.net(1, new int[][] {{0, 0}}, 5), 2, 0);
        dueTree("8 STEPS that change nothing", Nets.net(1, new int[8][2], 0), 9, 0);
        dueTree("a ring of three", Nets.wheel(), 4, 0);
        // PLACE 0 to 1, 1 to 2, 2 to 1: as one above, that is not the root.
        dueTree("a ring behind the root", Nets.net(3, new int[][] {
            {1, 0, 0, 1, 0, 0}, {0, 0, 1, 0, 0, 1}, {0, 0, 0, 1, 1, 0}
        }, 1, 0, 0), 4, 0);
        // By PLACE 1 and by PLACE 2 to PLACE 3, and on to PLACE 4: as one beside it, so both go on.
        dueTree("as one that is not above", Nets.net(5, new int[][] {
            {1, 0, 0, 1, 0, 0, 0, 0, 0, 0}, {1, 0, 0, 0, 0, 1, 0, 0, 0, 0}, {0, 0, 1, 0, 0, 0, 0, 1, 0, 0},
            {0, 0, 0, 0, 1, 0, 0, 1, 0, 0}, {0, 0, 0, 0, 0, 0, 1, 0, 0, 1}
        }, 1, 0, 0, 0, 0), 7, 0);
    }

    private static void marksAbove99() {
        Pebblegate x = Nets.net(2, new int[][] {{0, 3, 1, 0}}, 99, 19);
        dueTree("above 99", x, 20, 0);
        CHECKS.due("above 99: most", x.most(0) + " " + x.most(1), "156 19");
        x.set(1, 0);
        CHECKS.due("just 99: most", x.most(0), 99);
        Pebblegate down = Nets.stairs(7);
        CHECKS.due("the most is the root's", down.most(0), 7);
    }

    // ---- MANY

    private static void manyComes() {
        // 0; MANY; MANY, as the one above it.
        dueTree("a MARK out of nothing", Nets.spring(), 3, 1);
        CHECKS.due("a MARK out of nothing: beside it", Nets.spring().most(1), 0);
        // Also at 99, and by 3 at once.
        dueTree("3 MARKS out of nothing, at 99", Nets.net(1, new int[][] {{0, 3}}, 99), 3, 1);
        dueTree("more is laid than taken", Nets.net(1, new int[][] {{2, 3}}, 2), 3, 1);
        dueTree("more is laid than taken, but it can not go", Nets.net(1, new int[][] {{2, 3}}, 1), 1, 0);
        CHECKS.due("where the TREE tells MANY the NET is WIDE", Nets.net(1, new int[][] {{2, 3}}, 2).reached(), -9);
    }

    private static void manyStays() {
        // Root 0; MANY; of it MANY by each STEP, though STEP 1 takes 3.
        dueTree("MANY stays though 3 go", Nets.net(1, new int[][] {{0, 1}, {3, 0}}, 0), 4, 1);
        // STEP 1 needs 3 of PLACE 0: MANY is more than these.
        Pebblegate needs = Nets.net(2, new int[][] {{0, 1, 0, 0}, {3, 0, 0, 1}}, 0, 0);
        dueTree("of MANY a TAKE of 3 can go", needs, 6, 3);
        // PLACE 0 gets MANY while the mark is at PLACE 1; it goes to PLACE 2, where STEP 2 takes again and again.
        Pebblegate less = Nets.net(3, new int[][] {{0, 1, 1, 1, 0, 0}, {2, 0, 1, 0, 0, 1}, {1, 0, 0, 0, 1, 1}}, 0, 1, 0);
        dueTree("MANY less 1 is as MANY", less, 5, 1);
    }

    private static void noMany() {
        dueTree("nothing more anywhere", Nets.net(1, new int[][] {{3, 3}}, 3), 2, 0);
        dueTree("more at one PLACE, less at another", Nets.net(2, new int[][] {{1, 0, 0, 3}}, 2, 0), 3, 0);
        dueTree("less at the last PLACE alone", Nets.net(3, new int[][] {{0, 3, 0, 3, 1, 0}}, 0, 0, 1), 2, 0);
        for (int less = 0; less < 8; less++) {
            Pebblegate x = new Pebblegate();
            x.begin(8);
            x.step();
            for (int p = 0; p < 8; p++) {
                x.arc(0, p, p == less ? 3 : 0, p == less ? 2 : 3);
            }
            x.set(less, 3);
            dueTree("less at PLACE " + less + " alone, more at the others", x, 2, 0);
        }
        // STEP 1's node has more than STEP 0's, but that one is not above it.
        Pebblegate beside = Nets.net(2, new int[][] {{1, 0, 0, 1}, {1, 0, 0, 2}}, 1, 0);
        dueTree("more than one beside it", beside, 3, 0);
        CHECKS.due("more than one beside it: most", beside.most(1), 2);
    }

    private static void manyByOneFartherAbove() {
        // PLACE 0 to 1 and back; each time back a MARK more at PLACE 2.
        Pebblegate x = Nets.net(3, new int[][] {{1, 0, 0, 1, 0, 0}, {0, 1, 1, 0, 0, 1}}, 1, 0, 0);
        dueTree("more than the root, two STEPS on", x, 5, 4);
        CHECKS.due("where it is as much as the root: no MANY", x.most(0) + " " + x.most(1), "1 1");
    }

    private static void manyThatItHasGotAlready() {
        // Root (2 0), of it (0 1), of it (1 1): more than (0 1), so PLACE 0 has MANY; by that more than the root.
        Pebblegate x = Nets.net(2, new int[][] {{2, 0, 0, 1}, {0, 1, 1, 1}}, 2, 0);
        dueTree("by MANY that it has got already", x, 5, 3);
    }

    private static void manyAtEachPlace() {
        for (int p = 0; p < 8; p++) {
            Pebblegate x = new Pebblegate();
            x.begin(8);
            x.step();
            x.arc(0, p, 0, 1);
            dueTree("MANY at PLACE " + p + " alone", x, 3, 1 << p);
        }
        Pebblegate all = new Pebblegate();
        all.begin(8);
        all.step();
        for (int p = 0; p < 8; p++) {
            all.arc(0, p, 2, 3);
            all.set(p, 2 + p);
        }
        dueTree("MANY at all 8", all, 3, 255);
    }

    // ---- WEIGHINGS

    private static void dueWeighings(String what, Pebblegate x, int[]... due) {
        CHECKS.due(what + ": weighings", x.weighings(), due.length);
        int places = x.house(3);
        for (int w = 0; w < 8; w++) {
            StringBuilder numbers = new StringBuilder();
            StringBuilder wanted = new StringBuilder();
            for (int p = 0; p < places; p++) {
                numbers.append(x.weighing(w, p)).append(' ');
                wanted.append(w < due.length ? due[w][p] : 0).append(' ');
            }
            CHECKS.due(what + ": weighing " + w, numbers.toString(), wanted.toString());
        }
    }

    private static int[] row(int... numbers) {
        return numbers;
    }

    private static void noStepsWeighings() {
        dueWeighings("no STEPS", new Pebblegate(), row(1, 0, 0, 0), row(0, 1, 0, 0), row(0, 0, 1, 0), row(0, 0, 0, 1));
        Pebblegate one = new Pebblegate();
        one.begin(1);
        dueWeighings("no STEPS, one PLACE", one, row(1));
        dueWeighings("STEPS that change nothing", Nets.net(2, new int[][] {{3, 3, 1, 1}, {0, 0, 2, 2}}), row(1, 0), row(0, 1));
        Pebblegate eight = new Pebblegate();
        eight.begin(8);
        int[][] due = new int[8][8];
        for (int p = 0; p < 8; p++) {
            due[p][p] = 1;
            eight.set(p, 90 + p);
        }
        dueWeighings("no STEPS, 8 PLACES", eight, due);
        for (int w = 0; w < 8; w++) {
            CHECKS.due("no STEPS, 8 PLACES: weight", eight.weight(w, -1), 90 + w);
        }
    }

    private static void allTied() {
        dueWeighings("one PLACE, TIED", Nets.stairs(9));
        dueWeighings("one PLACE, TIED by a LAY", Nets.net(1, new int[][] {{2, 3}}));
        dueWeighings("two PLACES, TIED", Nets.net(2, new int[][] {{0, 1, 0, 0}, {0, 0, 0, 1}}));
        Pebblegate x = new Pebblegate();
        x.begin(8);
        for (int s = 0; s < 8; s++) {
            x.step();
            x.arc(s, s, 0, 1);
            x.set(s, 5);
        }
        dueWeighings("8 PLACES, TIED", x);
        for (int w = 0; w < 8; w++) {
            CHECKS.due("none with that number: weight", x.weight(w, -1), 0);
        }
    }

    private static void freeAndTied() {
        dueWeighings("the first one FREE", Nets.net(2, new int[][] {{1, 1, 0, 2}}), row(1, 0));
        dueWeighings("the first one TIED", Nets.net(2, new int[][] {{0, 2, 1, 1}}), row(0, 1));
        dueWeighings("FREE by the same lesser one", Nets.net(3, new int[][] {{0, 1, 0, 1, 0, 1}}), row(-1, 1, 0), row(-1, 0, 1));
        dueWeighings("other at the last STEP alone", Nets.net(2, new int[][] {{0, 1, 0, 1}, {0, 1, 0, 1}, {0, 1, 0, 2}}));
        dueWeighings("at the last STEP 0, the lesser one not", Nets.net(2, new int[][] {{0, 1, 0, 1}, {0, 1, 0, 0}}));
        dueWeighings("FREE between TIED ones", Nets.net(3, new int[][] {{0, 1, 1, 0, 0, 0}, {0, 0, 0, 0, 0, 1}}), row(1, 1, 0));
        dueWeighings("FREE by two TIED ones", Nets.net(3, new int[][] {{0, 1, 0, 0, 0, 1}, {0, 0, 0, 1, 0, 1}}), row(-1, -1, 1));
        Pebblegate x = Nets.net(2, new int[][] {{0, 1, 0, 1}});
        x.turn();
        dueWeighings("TURNED: the same", x, row(-1, 1));
        x.arc(0, 1, 1, 0);
        dueWeighings("an arc is the same again", x, row(-1, 1));
        x.arc(0, 1, 0, 1);
        dueWeighings("an arc is another one", x, row(1, 1));
        x.strike(0);
        dueWeighings("no STEP any more", x, row(1, 0), row(0, 1));
    }

    private static void leastWholeNumbers() {
        for (int one = -3; one <= 3; one++) {
            for (int other = -3; other <= 3; other++) {
                Pebblegate x = Nets.net(2, new int[][] {{one < 0 ? -one : 0, one > 0 ? one : 0, other < 0 ? -other : 0, other > 0 ? other : 0}});
                String what = "CHANGES " + one + " and " + other;
                if (one == 0 && other == 0) {
                    dueWeighings(what, x, row(1, 0), row(0, 1));
                } else if (one == 0) {
                    dueWeighings(what, x, row(1, 0));
                } else {
                    int shared = Math.abs(one) == Math.abs(other) || other == 0 ? Math.abs(one) : 1;
                    int last = Math.abs(one) / shared;
                    dueWeighings(what, x, row(-other * last / one, last));
                }
            }
        }
        dueWeighings("2 and 3: halves and thirds", Nets.net(3, new int[][] {{0, 2, 0, 0, 0, 1}, {0, 0, 0, 3, 0, 1}}), row(-3, -2, 6));
        dueWeighings("one part is whole, one is not", Nets.net(3, new int[][] {{0, 1, 0, 0, 0, 3}, {0, 0, 0, 2, 0, 3}}), row(-6, -3, 2));
        dueWeighings("what would be shared is shortened", Nets.net(3, new int[][] {{0, 2, 0, 2, 0, 0}, {0, 2, 2, 0, 0, 2}}), row(-1, 1, 2));
    }

    private static void weighingsOfEightPlaces() {
        // A MARK goes round 8 PLACES: all weigh 1.
        Pebblegate ring = new Pebblegate();
        ring.begin(8);
        for (int s = 0; s < 8; s++) {
            ring.step();
            ring.arc(s, s, 1, 0);
            ring.arc(s, (s + 1) % 8, 0, 1);
        }
        dueWeighings("a ring of 8", ring, row(1, 1, 1, 1, 1, 1, 1, 1));
        // Each PLACE lays 2 for 1 taken: 128, 64 .. 1.
        Pebblegate doubling = Nets.full(0);
        doubling.strike(7);
        dueWeighings("doubling over 8", doubling, row(128, 64, 32, 16, 8, 4, 2, 1));
        // 3 taken, 2 laid: 2 to the 7th at the first, 3 to the 7th at the last.
        Pebblegate thirds = new Pebblegate();
        thirds.begin(8);
        for (int s = 0; s < 7; s++) {
            thirds.step();
            thirds.arc(s, s, 2, 0);
            thirds.arc(s, s + 1, 0, 3);
        }
        dueWeighings("3 for 2 over 8", thirds, row(2187, 1458, 972, 648, 432, 288, 192, 128));
    }

    /** What was told before is told no more, whichever of the three is asked first. */
    private static void noneWithThatNumberAnyMore() {
        Pebblegate x = new Pebblegate();
        CHECKS.due("asked first of a new object: weighing", x.weighing(3, 3), 1);
        x.begin(2);
        x.set(1, 5);
        CHECKS.due("asked first: weight", x.weight(1, -1), 5);
        CHECKS.due("just as many as PLACES: none with that number", x.weighing(2, 1) + " " + x.weight(2, -1), "0 0");
        x.step();
        x.arc(0, 0, 0, 1);
        x.arc(0, 1, 1, 0);
        CHECKS.due("a STEP ties PLACE 0: weighing", x.weighing(0, 0) + " " + x.weighing(0, 1), "1 1");
        CHECKS.due("none with number 1 any more: weighing", x.weighing(1, 0) + " " + x.weighing(1, 1), "0 0");
        CHECKS.due("none with number 1 any more: weight", x.weight(1, -1), 0);
        x.step();
        x.arc(1, 1, 0, 1);
        CHECKS.due("a STEP ties PLACE 1, too: weight", x.weight(0, -1), 0);
        CHECKS.due("none any more: weighing", x.weighing(0, 0) + " " + x.weighing(0, 1), "0 0");
        x.strike(1);
        CHECKS.due("the STEP is gone: weight", x.weight(0, -1), 5);
    }

    private static void weights() {
        Pebblegate x = Nets.net(2, new int[][] {{0, 2, 0, 1}}, 7, 1);
        Nets.keepAs(x, 0, 99, 0);
        Nets.keepAs(x, 3, 0, 99);
        CHECKS.due("weight of the present one", x.weight(0, -1), -5);
        CHECKS.due("weight of KEPT ones", x.weight(0, 0) + " " + x.weight(0, 1) + " " + x.weight(0, 2) + " " + x.weight(0, 3), "-99 0 0 198");
        for (int w = 1; w < 8; w++) {
            CHECKS.due("none with that number", x.weight(w, -1) + " " + x.weight(w, 0) + " " + x.weight(w, 3), "0 0 0");
        }
        x.set(0, 11);
        CHECKS.dueAsked(x, "a weight of -9 is no REFUSED", () -> x.weight(0, -1), -9);
        for (int i = 0; i < 5; i++) {
            x.go(0);
            CHECKS.due("the weight stays", x.weight(0, -1), -9);
        }
    }

    private static void greatestWeights() {
        // CHANGES, PLACE by PLACE, of which hardly anything cancels: numbers near the greatest that there are.
        int[][] changes = {
            {3, -3, -3, -3, 3, -2, -3}, {-3, -3, -3, 3, -2, 3, -3}, {-2, 3, -3, 3, 3, -3, 3}, {3, 3, -3, -3, -3, 3, 2},
            {3, 3, 2, 3, -3, -3, -3}, {3, -2, 3, 3, 3, 3, 3}, {-3, 3, 3, -3, 3, 3, -3}, {-3, -3, 3, -2, -3, -3, 3}
        };
        Pebblegate x = new Pebblegate();
        x.begin(8);
        for (int s = 0; s < 7; s++) {
            x.step();
            for (int p = 0; p < 8; p++) {
                x.arc(s, p, Math.max(0, -changes[p][s]), Math.max(0, changes[p][s]));
            }
        }
        dueWeighings("great numbers", x, row(820371, 794055, 798261, 820191, 795885, 796035, 818516, 1087737));
        for (int p = 0; p < 8; p++) {
            x.set(p, 99);
        }
        CHECKS.due("the weight of 99 everywhere", x.weight(0, -1), 666374049);
        CHECKS.due("a great one is sound", x.isSound(), true);
        x.turn();
        CHECKS.due("TURNED: the same weight", x.weight(0, -1), 666374049);
    }
}
