/** Each promise by hand: ordinary inputs, the edges that the document names, and wrong inputs. */
final class PromisesTest {
    private static final int LOW = Integer.MIN_VALUE;
    private static final int HIGH = Integer.MAX_VALUE;

    private static Checks checks = new Checks();

    public static void main(String[] args) {
        newObject();
        begin();
        step();
        arc();
        strike();
        turn();
        set();
        add();
        go();
        back();
        run();
        keep();
        recall();
        follow();
        ofArc();
        marks();
        text();
        keptText();
        can();
        going();
        touches();
        areApart();
        reached();
        reachedText();
        number();
        way();
        deads();
        chances();
        again();
        rings();
        comesBack();
        nodes();
        most();
        manies();
        weighings();
        weighing();
        weight();
        house();
        knock();
        isSound();
        digest();
        checks.end();
    }

    // ---- the promises

    private static void newObject() {
        Pebblegate x = new Pebblegate();
        checks.due("new: PLACES", x.house(3), 4);
        checks.due("new: STEPS", x.house(4), 0);
        checks.due("new: MARKS", x.house(5), 0);
        checks.due("new: done", x.house(0), 0);
        checks.due("new: refused", x.house(1), 0);
        checks.due("new: knocks", x.house(2), 0);
        checks.due("new: text", x.text(), "0 0 0 0");
        checks.due("new: keptText", x.keptText(3), "0 0 0 0");
        checks.due("new: reached", x.reached(), 1);
        checks.due("new: deads", x.deads(), 1);
        checks.due("new: weighings", x.weighings(), 4);
        checks.dueIndex(x, "new: no STEP 0", () -> x.go(0));
    }

    private static void begin() {
        Pebblegate x = new Pebblegate();
        x.step();
        x.arc(0, 0, 1, 2);
        x.set(0, 5);
        for (int k = 0; k < 4; k++) {
            x.keep(k);
        }
        x.knock();
        checks.due("begin(8) after a new object", x.begin(8), 4);
        checks.due("begin leaves no STEPS", x.house(4), 0);
        checks.due("begin leaves no MARKS", x.text(), "0 0 0 0 0 0 0 0");
        for (int k = 0; k < 4; k++) {
            checks.due("begin leaves no KEPT MARKS", x.keptText(k), "0 0 0 0 0 0 0 0");
        }
        checks.due("begin does not count anew", x.house(0), 8);
        checks.due("begin leaves the knocks", x.house(2), 1);
        checks.due("a STEP after begin is number 0", x.step(), 0);
        checks.due("a STEP after begin takes nothing", x.ofArc(0, 0, 0), 0);
        checks.due("a STEP after begin lays nothing", x.ofArc(0, 0, 1), 0);
        checks.due("begin(1)", x.begin(1), 8);
        checks.due("begin(1) again", x.begin(1), 1);
        checks.due("begin(1) text", x.text(), "0");
        checks.dueArgument(x, "begin(0)", () -> x.begin(0));
        checks.dueArgument(x, "begin(9)", () -> x.begin(9));
        checks.dueArgument(x, "begin(LOW)", () -> x.begin(LOW));
        checks.dueArgument(x, "begin(HIGH)", () -> x.begin(HIGH));
    }

    private static void step() {
        Pebblegate x = new Pebblegate();
        for (int s = 0; s < 8; s++) {
            checks.due("step", x.step(), s);
        }
        checks.dueRefused(x, "the ninth step", () -> x.step());
        checks.due("STEPS after the ninth", x.house(4), 8);
        for (int p = 0; p < 4; p++) {
            checks.due("a new STEP takes nothing", x.ofArc(7, p, 0), 0);
            checks.due("a new STEP lays nothing", x.ofArc(7, p, 1), 0);
        }
        checks.due("a new STEP can go", x.going(), 255);
    }

    private static void arc() {
        Pebblegate x = new Pebblegate();
        x.step();
        checks.due("arc, nothing other", x.arc(0, 3, 0, 0), 0);
        checks.due("arc, TAKE other", x.arc(0, 3, 3, 0), 1);
        checks.due("arc, LAY other", x.arc(0, 3, 3, 3), 1);
        checks.due("arc, the same", x.arc(0, 3, 3, 3), 0);
        checks.due("arc, both other", x.arc(0, 3, 1, 2), 1);
        checks.due("arc, its TAKE", x.ofArc(0, 3, 0), 1);
        checks.due("arc, its LAY", x.ofArc(0, 3, 1), 2);
        checks.due("arc is done, also if nothing is other", x.house(0), 6);
        checks.dueIndex(x, "arc(1, 0, ..)", () -> x.arc(1, 0, 0, 0));
        checks.dueIndex(x, "arc(-1, 0, ..)", () -> x.arc(-1, 0, 0, 0));
        checks.dueIndex(x, "arc(0, 4, ..)", () -> x.arc(0, 4, 0, 0));
        checks.dueIndex(x, "arc(0, -1, ..)", () -> x.arc(0, -1, 0, 0));
        checks.dueArgument(x, "arc take 4", () -> x.arc(0, 3, 4, 0));
        checks.dueArgument(x, "arc take -1", () -> x.arc(0, 3, -1, 0));
        checks.dueArgument(x, "arc lay 4", () -> x.arc(0, 3, 0, 4));
        checks.dueArgument(x, "arc lay -1", () -> x.arc(0, 3, 0, -1));
        checks.dueIndex(x, "arc: no PLACE goes ahead of take", () -> x.arc(0, 4, 4, 4));
        checks.dueIndex(x, "arc: no STEP goes ahead of lay", () -> x.arc(HIGH, 0, 0, LOW));
    }

    private static void strike() {
        Pebblegate x = new Pebblegate();
        for (int s = 0; s < 8; s++) {
            x.step();
            x.arc(s, 0, s % 4, (s + 1) % 4);
            x.arc(s, 3, s / 4, 0);
        }
        checks.due("strike in the middle", x.strike(2), 7);
        checks.due("those ahead stay", x.ofArc(1, 0, 0), 1);
        checks.due("those behind come up, TAKE", x.ofArc(2, 0, 0), 3);
        checks.due("those behind come up, LAY", x.ofArc(2, 0, 1), 0);
        checks.due("the last one comes up", x.ofArc(6, 3, 0), 1);
        checks.due("the last one comes up, LAY", x.ofArc(6, 0, 1), 0);
        checks.dueIndex(x, "the last number is free", () -> x.ofArc(7, 0, 0));
        checks.due("a new STEP has the free number", x.step(), 7);
        checks.due("and takes nothing", x.ofArc(7, 0, 0), 0);
        checks.due("and lays nothing", x.ofArc(7, 3, 0), 0);
        checks.due("strike the last", x.strike(7), 7);
        checks.due("strike the first", x.strike(0), 6);
        checks.due("the second is the first", x.ofArc(0, 0, 0), 1);
        checks.dueIndex(x, "strike(6)", () -> x.strike(6));
        for (int left = 5; left >= 1; left--) {
            checks.due("strike down", x.strike(0), left);
        }
        checks.dueIndex(x, "strike(-1)", () -> x.strike(-1));
        checks.dueIndex(x, "strike(LOW)", () -> x.strike(LOW));
        checks.due("strike the only one", x.strike(0), 0);
        checks.dueIndex(x, "strike of none", () -> x.strike(0));
    }

    private static void turn() {
        Pebblegate x = new Pebblegate();
        checks.due("turn of no STEPS", x.turn(), 0);
        for (int s = 0; s < 4; s++) {
            x.step();
        }
        x.arc(0, 0, 1, 2);
        x.arc(0, 1, 0, 3);
        x.arc(1, 3, 2, 2);
        x.arc(2, 3, 2, 1);
        checks.due("turn", x.turn(), 2);
        checks.due("turn, TAKE", x.ofArc(0, 0, 0), 2);
        checks.due("turn, LAY", x.ofArc(0, 0, 1), 1);
        checks.due("turn, TAKE elsewhere", x.ofArc(0, 1, 0), 3);
        checks.due("turn, LAY elsewhere", x.ofArc(0, 1, 1), 0);
        checks.due("turn, alike", x.ofArc(1, 3, 0), 2);
        checks.due("turn, the last", x.ofArc(2, 3, 2), 1);
        checks.due("turn twice", x.turn(), 2);
        checks.due("turn twice, TAKE", x.ofArc(0, 0, 0), 1);
        checks.due("turn is done", x.house(0), 11);
    }

    private static void set() {
        Pebblegate x = new Pebblegate();
        checks.due("set", x.set(3, 99), 0);
        checks.due("set again", x.set(3, 7), 99);
        checks.due("set to 0", x.set(3, 0), 7);
        checks.due("set the same", x.set(3, 0), 0);
        checks.due("set is done", x.house(0), 4);
        x.set(0, 12);
        checks.due("set one PLACE alone", x.text(), "12 0 0 0");
        checks.dueIndex(x, "set(4, 0)", () -> x.set(4, 0));
        checks.dueIndex(x, "set(-1, 0)", () -> x.set(-1, 0));
        checks.dueArgument(x, "set(0, 100)", () -> x.set(0, 100));
        checks.dueArgument(x, "set(0, -1)", () -> x.set(0, -1));
        checks.dueIndex(x, "set: no PLACE goes ahead of marks", () -> x.set(4, 100));
    }

    private static void add() {
        Pebblegate x = new Pebblegate();
        checks.due("add 99", x.add(1, 99), 99);
        checks.dueRefused(x, "add above 99", () -> x.add(1, 1));
        checks.due("add 0", x.add(1, 0), 99);
        checks.due("add -9", x.add(1, -9), 90);
        checks.due("add -90", x.add(1, -90), 0);
        checks.dueRefused(x, "add below 0", () -> x.add(1, -1));
        checks.dueRefused(x, "add to -9", () -> x.add(1, -9));
        checks.dueIndex(x, "add(4, 0)", () -> x.add(4, 0));
        checks.dueIndex(x, "add(-1, 0)", () -> x.add(-1, 0));
        checks.dueArgument(x, "add(0, 100)", () -> x.add(0, 100));
        checks.dueArgument(x, "add(0, -100)", () -> x.add(0, -100));
        checks.dueArgument(x, "add(0, LOW)", () -> x.add(0, LOW));
        checks.dueArgument(x, "add(0, HIGH)", () -> x.add(0, HIGH));
        checks.dueIndex(x, "add: no PLACE goes ahead of by", () -> x.add(4, 100));
    }

    private static void go() {
        Pebblegate x = Nets.net(2, new int[][] {{2, 1, 0, 3}, {0, 0, 1, 1}}, 5, 0);
        int done = x.house(0);
        checks.due("go", x.go(0), 7);
        checks.due("go, text", x.text(), "4 3");
        checks.due("go that changes nothing", x.go(1), 7);
        checks.due("go is done", x.house(0), done + 2);
        x.set(0, 1);
        checks.dueRefused(x, "go, TAKE is missing", () -> x.go(0));
        x.set(0, 2);
        x.set(1, 96);
        checks.due("go up to 99", x.go(0), 100);
        x.set(0, 2);
        x.set(1, 97);
        checks.dueRefused(x, "go above 99", () -> x.go(0));
        x.set(1, 0);
        checks.dueRefused(x, "go, LAY does not serve for TAKE", () -> x.go(1));
        checks.dueIndex(x, "go(2)", () -> x.go(2));
        checks.dueIndex(x, "go(-1)", () -> x.go(-1));
    }

    private static void back() {
        Pebblegate x = Nets.net(2, new int[][] {{2, 1, 0, 3}, {0, 0, 1, 1}}, 4, 3);
        int done = x.house(0);
        checks.due("back", x.back(0), 5);
        checks.due("back, text", x.text(), "5 0");
        checks.dueRefused(x, "back, LAY is missing", () -> x.back(0));
        x.set(0, 98);
        x.set(1, 3);
        checks.due("back up to 99", x.back(0), 99);
        x.set(1, 3);
        checks.dueRefused(x, "back above 99", () -> x.back(0));
        checks.dueIndex(x, "back(2)", () -> x.back(2));
        checks.dueIndex(x, "back(-1)", () -> x.back(-1));
        x.set(0, 7);
        x.set(1, 9);
        x.back(0);
        x.go(0);
        checks.due("back and forward", x.text(), "7 9");
    }

    private static void run() {
        Pebblegate x = Nets.net(2, new int[][] {{2, 0, 0, 1}, {1, 0, 0, 3}}, 5, 0);
        int done = x.house(0);
        checks.due("run(0)", x.run(0), 0);
        checks.due("run(1) takes the lesser STEP", x.run(1), 1);
        checks.due("run(1), text", x.text(), "3 1");
        checks.due("run(20) to the end", x.run(20), 2);
        checks.due("run(20), text", x.text(), "0 5");
        checks.due("run where none can go", x.run(20), 0);
        checks.due("run is done, also with none", x.house(0), done + 4);
        checks.due("run is never REFUSED", x.house(1), 0);
        checks.dueArgument(x, "run(21)", () -> x.run(21));
        checks.dueArgument(x, "run(-1)", () -> x.run(-1));

        Pebblegate idle = Nets.net(1, new int[][] {{0, 0}}, 0);
        checks.due("a STEP that changes nothing goes on", idle.run(20), 20);

        Pebblegate full = Nets.net(2, new int[][] {{0, 3, 0, 0}, {0, 0, 0, 1}}, 95, 0);
        checks.due("run passes by a STEP that goes above 99", full.run(5), 5);
        checks.due("run, text", full.text(), "98 4");

        Pebblegate again = Nets.net(2, new int[][] {{0, 0, 1, 0}, {1, 0, 0, 1}}, 2, 0);
        checks.due("run begins with the least STEP each time", again.run(3), 3);
        checks.due("run, then", again.text(), "0 1");
    }

    private static void keep() {
        Pebblegate x = new Pebblegate();
        checks.due("keep, nothing other", x.keep(0), 0);
        x.set(2, 5);
        checks.due("keep", x.keep(0), 1);
        checks.due("keep again", x.keep(0), 0);
        checks.due("keep the last", x.keep(3), 1);
        checks.due("kept", x.keptText(0), "0 0 5 0");
        checks.due("kept elsewhere", x.keptText(1), "0 0 0 0");
        x.set(2, 6);
        checks.due("what is kept stays", x.keptText(3), "0 0 5 0");
        checks.due("keep leaves the present", x.text(), "0 0 6 0");
        checks.due("keep is done", x.house(0), 6);
        checks.dueIndex(x, "keep(4)", () -> x.keep(4));
        checks.dueIndex(x, "keep(-1)", () -> x.keep(-1));
    }

    private static void recall() {
        Pebblegate x = new Pebblegate();
        checks.due("recall, nothing other", x.recall(3), 0);
        x.set(1, 8);
        x.keep(3);
        checks.due("recall the same", x.recall(3), 0);
        checks.due("recall another", x.recall(2), 1);
        checks.due("recall, text", x.text(), "0 0 0 0");
        checks.due("recall back", x.recall(3), 1);
        checks.due("recall back, text", x.text(), "0 8 0 0");
        x.set(1, 9);
        checks.due("what is kept stays", x.keptText(3), "0 8 0 0");
        checks.due("recall is done", x.house(0), 7);
        checks.dueIndex(x, "recall(4)", () -> x.recall(4));
        checks.dueIndex(x, "recall(-1)", () -> x.recall(-1));
    }

    private static void follow() {
        Pebblegate x = Nets.wheel();
        Nets.keepAs(x, 0, 0, 0, 1);
        Nets.keepAs(x, 1, 1, 0, 0);
        Nets.keepAs(x, 2, 1, 1, 0);
        int done = x.house(0);
        checks.due("follow to where it is", x.follow(1), 0);
        checks.due("follow", x.follow(0), 2);
        checks.due("follow, text", x.text(), "0 0 1");
        checks.due("follow, one STEP", x.follow(1), 1);
        checks.due("follow is done", x.house(0), done + 3);
        checks.dueRefused(x, "follow, not REACHED", () -> x.follow(2));
        checks.dueIndex(x, "follow(4)", () -> x.follow(4));
        checks.dueIndex(x, "follow(-1)", () -> x.follow(-1));

        Pebblegate wide = Nets.stairs(16);
        Nets.keepAs(wide, 0, 15);
        int wideDone = wide.house(0);
        checks.dueRefused(wide, "follow in a WIDE NET", () -> wide.follow(0));
        checks.dueRefused(wide, "follow to where it is in a WIDE NET", () -> wide.follow(3));

        // To "98 0 0" one comes by "101 0 1" alone, which is above 99.
        Pebblegate over = Nets.hill(98);
        Nets.keepAs(over, 0, 98, 0, 0);
        int overDone = over.house(0);
        checks.due("the WAY goes above 99", over.way(0, 0), "0 1");
        checks.dueRefused(over, "follow above 99", () -> over.follow(0));
        over.set(0, 96);
        Nets.keepAs(over, 0, 96, 0, 0);
        checks.due("follow up to 99", over.follow(0), 2);
        checks.due("follow up to 99, text", over.text(), "96 0 0");
    }

    private static void ofArc() {
        Pebblegate x = new Pebblegate();
        x.step();
        x.step();
        x.arc(1, 3, 3, 1);
        checks.due("ofArc TAKE", x.ofArc(1, 3, 0), 3);
        checks.due("ofArc LAY", x.ofArc(1, 3, 1), 1);
        checks.due("ofArc LAY less TAKE", x.ofArc(1, 3, 2), -2);
        checks.due("ofArc elsewhere", x.ofArc(0, 3, 0), 0);
        checks.due("ofArc is not counted", x.house(0), 3);
        checks.dueIndex(x, "ofArc(2, 0, 0)", () -> x.ofArc(2, 0, 0));
        checks.dueIndex(x, "ofArc(-1, 0, 0)", () -> x.ofArc(-1, 0, 0));
        checks.dueIndex(x, "ofArc(0, 4, 0)", () -> x.ofArc(0, 4, 0));
        checks.dueIndex(x, "ofArc(0, -1, 0)", () -> x.ofArc(0, -1, 0));
        checks.dueArgument(x, "ofArc(0, 0, 3)", () -> x.ofArc(0, 0, 3));
        checks.dueArgument(x, "ofArc(0, 0, -1)", () -> x.ofArc(0, 0, -1));
        checks.dueIndex(x, "ofArc: no STEP goes ahead of what", () -> x.ofArc(2, 0, 3));
        checks.dueIndex(x, "ofArc: no PLACE goes ahead of what", () -> x.ofArc(0, 4, 3));
    }

    private static void marks() {
        Pebblegate x = new Pebblegate();
        x.set(3, 42);
        checks.due("marks", x.marks(3), 42);
        checks.due("marks elsewhere", x.marks(0), 0);
        checks.dueIndex(x, "marks(4)", () -> x.marks(4));
        checks.dueIndex(x, "marks(-1)", () -> x.marks(-1));
        x.begin(8);
        checks.due("marks(7)", x.marks(7), 0);
        x.begin(2);
        checks.dueIndex(x, "marks(2) of two", () -> x.marks(2));
    }

    private static void text() {
        Pebblegate x = new Pebblegate();
        x.set(0, 10);
        x.set(1, 2);
        x.set(3, 99);
        checks.due("text", x.text(), "10 2 0 99");
        x.begin(1);
        checks.due("text of one PLACE", x.text(), "0");
    }

    private static void keptText() {
        Pebblegate x = new Pebblegate();
        x.set(3, 11);
        x.keep(2);
        checks.due("keptText", x.keptText(2), "0 0 0 11");
        checks.due("keptText elsewhere", x.keptText(0), "0 0 0 0");
        checks.dueIndex(x, "keptText(4)", () -> x.keptText(4));
        checks.dueIndex(x, "keptText(-1)", () -> x.keptText(-1));
    }

    private static void can() {
        Pebblegate x = Nets.net(2, new int[][] {{2, 0, 0, 3}, {0, 3, 0, 0}}, 2, 0);
        checks.due("can", x.can(0, false), true);
        checks.due("can back", x.can(0, true), false);
        x.set(0, 1);
        x.set(1, 3);
        checks.due("can, TAKE is missing", x.can(0, false), false);
        checks.due("can back, then", x.can(0, true), true);
        x.set(0, 99);
        checks.due("can, whatever many come", x.can(1, false), true);
        checks.due("can back, whatever many come", x.can(0, true), true);
        checks.due("go of it is REFUSED", x.go(1), -9);
        checks.dueIndex(x, "can(2, ..)", () -> x.can(2, false));
        checks.dueIndex(x, "can(-1, ..)", () -> x.can(-1, true));
    }

    private static void going() {
        Pebblegate x = new Pebblegate();
        checks.due("going of no STEPS", x.going(), 0);
        for (int s = 0; s < 8; s++) {
            x.step();
            x.arc(s, 0, s % 4, 3);
        }
        checks.due("going at 0", x.going(), 1 + 16);
        x.set(0, 2);
        checks.due("going at 2", x.going(), 1 + 2 + 4 + 16 + 32 + 64);
        x.set(0, 99);
        checks.due("going at 99, whatever many come", x.going(), 255);
    }

    private static void touches() {
        Pebblegate x = new Pebblegate();
        x.step();
        x.step();
        x.arc(0, 0, 1, 0);
        x.arc(0, 2, 0, 1);
        x.arc(0, 3, 2, 2);
        checks.due("touches", x.touches(0), 13);
        checks.due("touches nothing", x.touches(1), 0);
        checks.dueIndex(x, "touches(2)", () -> x.touches(2));
        checks.dueIndex(x, "touches(-1)", () -> x.touches(-1));
    }

    private static void areApart() {
        Pebblegate x = new Pebblegate();
        for (int s = 0; s < 4; s++) {
            x.step();
        }
        x.arc(0, 0, 1, 0);
        x.arc(0, 1, 0, 1);
        x.arc(1, 2, 1, 0);
        x.arc(2, 1, 3, 3);
        checks.due("apart", x.areApart(0, 1), true);
        checks.due("not apart", x.areApart(0, 2), false);
        checks.due("not apart, the other way", x.areApart(2, 0), false);
        checks.due("not apart from itself", x.areApart(1, 1), false);
        checks.due("one that touches nothing is apart from itself", x.areApart(3, 3), true);
        checks.dueIndex(x, "areApart(4, 0)", () -> x.areApart(4, 0));
        checks.dueIndex(x, "areApart(0, 4)", () -> x.areApart(0, 4));
        checks.dueIndex(x, "areApart(-1, 0)", () -> x.areApart(-1, 0));
        checks.dueIndex(x, "areApart(0, -1)", () -> x.areApart(0, -1));
    }

    private static void reached() {
        checks.due("reached, none can go", Nets.stairs(0).reached(), 1);
        checks.due("reached", Nets.stairs(3).reached(), 4);
        checks.due("reached, 16", Nets.stairs(15).reached(), 16);
        Pebblegate wide = Nets.stairs(16);
        int done = wide.house(0);
        checks.due("reached, 17 are WIDE", wide.reached(), -9);
        checks.due("a WIDE answer is not counted as REFUSED", wide.house(1), 0);
        checks.due("nor as done", wide.house(0), done);
        checks.due("reached, a ring", Nets.wheel().reached(), 3);
        checks.due("reached, without bound", Nets.spring().reached(), -9);
        Pebblegate over = Nets.net(2, new int[][] {{0, 3, 1, 0}}, 99, 5);
        checks.due("reached above 99", over.reached(), 6);
    }

    private static void reachedText() {
        Pebblegate x = Nets.net(3, new int[][] {{1, 0, 0, 1, 0, 0}, {1, 0, 0, 0, 0, 1}}, 2, 0, 0);
        String[] due = {"2 0 0", "1 1 0", "1 0 1", "0 2 0", "0 1 1", "0 0 2", ""};
        for (int n = 0; n < due.length; n++) {
            checks.due("reachedText", x.reachedText(n), due[n]);
        }
        checks.due("reachedText(15)", x.reachedText(15), "");
        checks.due("reachedText(15) of 16", Nets.stairs(15).reachedText(15), "0");
        checks.due("reachedText, WIDE", Nets.stairs(16).reachedText(0), "?");
        Pebblegate over = Nets.net(2, new int[][] {{0, 3, 1, 0}}, 99, 1);
        checks.due("reachedText above 99", over.reachedText(1), "102 0");
        checks.dueArgument(x, "reachedText(16)", () -> x.reachedText(16));
        checks.dueArgument(x, "reachedText(-1)", () -> x.reachedText(-1));
        Pebblegate wide = Nets.stairs(16);
        checks.dueArgument(wide, "reachedText(16), WIDE", () -> wide.reachedText(16));
    }

    private static void number() {
        Pebblegate x = Nets.stairs(5);
        Nets.keepAs(x, 0, 5);
        Nets.keepAs(x, 1, 2);
        Nets.keepAs(x, 2, 6);
        checks.due("number of the present", x.number(0), 0);
        checks.due("number", x.number(1), 3);
        checks.due("number of one not REACHED", x.number(2), -1);
        checks.due("number, WIDE", Nets.stairs(16).number(0), -9);
        checks.dueIndex(x, "number(4)", () -> x.number(4));
        checks.dueIndex(x, "number(-1)", () -> x.number(-1));
    }

    private static void way() {
        // STEPS 1 and 2 do the same; 0 changes nothing; 3 goes two at once.
        Pebblegate x = Nets.net(1, new int[][] {{0, 0}, {1, 0}, {1, 0}, {2, 0}}, 5);
        Nets.keepAs(x, 0, 5);
        Nets.keepAs(x, 1, 4);
        Nets.keepAs(x, 2, 2);
        Nets.keepAs(x, 3, 0);
        for (int how = 0; how < 2; how++) {
            checks.due("way to the present", x.way(0, how), "");
            checks.due("way of one, the lesser STEP", x.way(1, how), "1");
            checks.due("way of two, the shortest, the first", x.way(2, how), "1 3");
        }
        checks.due("way of three by layers", x.way(3, 0), "1 3 3");
        checks.due("way of three by DEEPENING", x.way(3, 1), "none");
        Nets.keepAs(x, 3, 6);
        checks.due("way to one not REACHED", x.way(3, 0), "none");
        checks.due("way to one not REACHED, DEEPENING", x.way(3, 1), "none");

        Pebblegate wide = Nets.stairs(16);
        Nets.keepAs(wide, 0, 15);
        Nets.keepAs(wide, 1, 14);
        Nets.keepAs(wide, 2, 13);
        Nets.keepAs(wide, 3, 16);
        checks.due("way, WIDE, by layers", wide.way(0, 0), "?");
        checks.due("way, WIDE, DEEPENING by one", wide.way(0, 1), "0");
        checks.due("way, WIDE, DEEPENING by two", wide.way(1, 1), "0 0");
        checks.due("way, WIDE, DEEPENING by three", wide.way(2, 1), "none");
        checks.due("way, WIDE, DEEPENING to the present", wide.way(3, 1), "");
        checks.due("way, WIDE, by layers to the present", wide.way(3, 0), "?");

        Pebblegate over = Nets.hill(98);
        Nets.keepAs(over, 0, 98, 0, 0);
        checks.due("DEEPENING above 99", over.way(0, 1), "0 1");
        checks.dueIndex(x, "way(4, 0)", () -> x.way(4, 0));
        checks.dueIndex(x, "way(-1, 0)", () -> x.way(-1, 0));
        checks.dueArgument(x, "way(0, 2)", () -> x.way(0, 2));
        checks.dueArgument(x, "way(0, -1)", () -> x.way(0, -1));
        checks.dueIndex(x, "way: no KEPT MARKING goes ahead of how", () -> x.way(4, 2));
    }

    private static void deads() {
        checks.due("deads, the present", Nets.stairs(0).deads(), 1);
        checks.due("deads, the last", Nets.stairs(15).deads(), 1 << 15);
        checks.due("deads, none", Nets.wheel().deads(), 0);
        Pebblegate fork = Nets.net(3, new int[][] {{1, 0, 0, 1, 0, 0}, {1, 0, 0, 0, 0, 1}}, 1, 0, 0);
        checks.due("deads, two", fork.deads(), 6);
        Pebblegate idle = Nets.net(1, new int[][] {{1, 0}, {0, 0}}, 2);
        checks.due("deads, where one changes nothing", idle.deads(), 0);
        checks.due("deads, WIDE", Nets.stairs(16).deads(), -9);
    }

    private static void chances() {
        Pebblegate x = Nets.net(1, new int[][] {{1, 0}, {3, 0}, {0, 0}}, 4);
        checks.due("chances", x.chances(0), 4);
        checks.due("chances of one that takes more", x.chances(1), 2);
        checks.due("chances of one that takes nothing", x.chances(2), 5);
        checks.due("chances, WIDE", Nets.stairs(16).chances(0), -9);
        checks.dueIndex(x, "chances(3)", () -> x.chances(3));
        checks.dueIndex(x, "chances(-1)", () -> x.chances(-1));
    }

    private static void again() {
        // STEP 0 goes once into the ring that 1 and 2 make; 3 can never go; 4 changes nothing on it.
        Pebblegate x = Nets.net(3, new int[][] {
            {1, 0, 0, 1, 0, 0}, {0, 0, 1, 0, 0, 1}, {0, 0, 0, 1, 1, 0}, {3, 0, 0, 0, 0, 0}, {0, 0, 0, 0, 1, 1}
        }, 1, 0, 0);
        int[] due = {0, 1, 1, 0, 1};
        for (int s = 0; s < due.length; s++) {
            checks.due("again", x.again(s), due[s]);
        }
        checks.due("again, no ring", Nets.stairs(5).again(0), 0);
        checks.due("again, WIDE", Nets.spring().again(0), -9);
        checks.dueIndex(x, "again(5)", () -> x.again(5));
        checks.dueIndex(x, "again(-1)", () -> x.again(-1));
    }

    private static void rings() {
        checks.due("rings, none", Nets.stairs(5).rings(), 0);
        checks.due("rings, all", Nets.wheel().rings(), 7);
        Pebblegate into = Nets.net(3, new int[][] {
            {1, 0, 0, 1, 0, 0}, {0, 0, 1, 0, 0, 1}, {0, 0, 0, 1, 1, 0}
        }, 1, 0, 0);
        checks.due("rings behind the present", into.rings(), 6);
        Pebblegate alone = Nets.net(1, new int[][] {{1, 0}, {1, 1}}, 2);
        checks.due("rings of one alone", alone.rings(), 3);
        checks.due("rings, WIDE", Nets.stairs(16).rings(), -9);
    }

    private static void comesBack() {
        Pebblegate x = Nets.stairs(15);
        // Without a bound above, the NET TURNED goes up for ever.
        checks.due("comesBack from the present, the NET TURNED is WIDE", x.comesBack(0), -9);
        checks.due("comesBack, the NET TURNED is WIDE", x.comesBack(15), -9);
        Pebblegate bounded = Nets.net(2, new int[][] {{1, 0, 0, 1}}, 15, 0);
        checks.due("comesBack", bounded.comesBack(15), 1);
        Pebblegate few = Nets.net(2, new int[][] {{1, 0, 0, 1}}, 4, 0);
        checks.due("comesBack from the present", few.comesBack(0), 1);
        checks.due("comesBack from the last", few.comesBack(4), 1);
        checks.due("comesBack, no such number", few.comesBack(5), -1);
        checks.due("comesBack, no such number, 15", few.comesBack(15), -1);
        checks.due("comesBack, WIDE", Nets.stairs(16).comesBack(0), -9);
        checks.dueArgument(x, "comesBack(16)", () -> x.comesBack(16));
        checks.dueArgument(x, "comesBack(-1)", () -> x.comesBack(-1));
    }

    private static void nodes() {
        checks.due("nodes, the root alone", Nets.stairs(0).nodes(), 1);
        checks.due("nodes", Nets.stairs(4).nodes(), 5);
        checks.due("nodes, a ring ends where it began", Nets.wheel().nodes(), 4);
        checks.due("nodes, 20", Nets.stairs(19).nodes(), 20);
        checks.due("nodes, 21 are WIDE", Nets.stairs(20).nodes(), -9);
        checks.due("nodes with MANY", Nets.spring().nodes(), 3);
        // Two STEPS that do the same make a node each.
        checks.due("nodes of STEPS that do the same", Nets.net(1, new int[][] {{1, 0}, {1, 0}}, 2).nodes(), 7);
        Pebblegate wide = Nets.stairs(20);
        wide.nodes();
        checks.due("a WIDE answer is not counted", wide.house(1), 0);
    }

    private static void most() {
        Pebblegate x = Nets.net(2, new int[][] {{1, 0, 0, 3}}, 2, 95);
        checks.due("most at the root", x.most(0), 2);
        checks.due("most above 99", x.most(1), 101);
        Pebblegate spring = Nets.spring();
        checks.due("most, MANY", spring.most(0), -2);
        checks.due("most, beside MANY", spring.most(1), 0);
        checks.due("most, WIDE", Nets.stairs(20).most(0), -9);
        checks.dueIndex(x, "most(2)", () -> x.most(2));
        checks.dueIndex(x, "most(-1)", () -> x.most(-1));
    }

    private static void manies() {
        checks.due("manies, none", Nets.stairs(4).manies(), 0);
        checks.due("manies", Nets.spring().manies(), 1);
        // MANY of PLACE 0 lets MANY come to PLACE 1, and stays though STEP 1 takes from it.
        Pebblegate chain = Nets.net(2, new int[][] {{0, 1, 0, 0}, {1, 0, 0, 1}}, 0, 0);
        checks.due("manies, both", chain.manies(), 3);
        // Less at one PLACE, more at another one: no MANY.
        Pebblegate swap = Nets.net(2, new int[][] {{1, 0, 0, 1}}, 2, 0);
        checks.due("manies, where one takes what the other gets", swap.manies(), 0);
        Pebblegate doubling = Nets.net(2, new int[][] {{1, 0, 0, 2}, {0, 1, 1, 0}}, 1, 0);
        checks.due("manies, over more than one STEP", doubling.manies(), 3);
        checks.due("manies, WIDE", Nets.stairs(20).manies(), -9);
    }

    private static void weighings() {
        checks.due("weighings without STEPS", new Pebblegate().weighings(), 4);
        checks.due("weighings, a TIED one alone", Nets.stairs(1).weighings(), 0);
        checks.due("weighings of a ring", Nets.wheel().weighings(), 1);
        checks.due("weighings, where nothing changes", Nets.net(2, new int[][] {{2, 2, 0, 0}}).weighings(), 2);
    }

    private static void weighing() {
        Pebblegate x = Nets.wheel();
        for (int p = 0; p < 3; p++) {
            checks.due("weighing of a ring", x.weighing(0, p), 1);
        }
        checks.due("weighing, none with that number", x.weighing(1, 0), 0);
        checks.due("weighing(7, ..)", x.weighing(7, 2), 0);
        checks.dueIndex(x, "weighing(0, 3)", () -> x.weighing(0, 3));
        checks.dueIndex(x, "weighing(0, -1)", () -> x.weighing(0, -1));
        checks.dueArgument(x, "weighing(8, 0)", () -> x.weighing(8, 0));
        checks.dueArgument(x, "weighing(-1, 0)", () -> x.weighing(-1, 0));
        checks.dueIndex(x, "weighing: no PLACE goes ahead of w", () -> x.weighing(8, 3));

        // Takes 2 and lays 3: 3 at PLACE 0 and 2 at PLACE 1; PLACE 2 is FREE by itself.
        Pebblegate parts = Nets.net(3, new int[][] {{2, 0, 0, 3, 0, 0}});
        checkWeighing(parts, 0, 3, 2, 0);
        checkWeighing(parts, 1, 0, 0, 1);
        checkWeighing(parts, 2, 0, 0, 0);
        // Two PLACES that rise together weigh against one another.
        Pebblegate against = Nets.net(2, new int[][] {{0, 2, 0, 1}});
        checkWeighing(against, 0, -1, 2);
        // PLACE 0 never changes: it is FREE, though PLACE 1 behind it is TIED.
        Pebblegate still = Nets.net(3, new int[][] {{0, 0, 2, 0, 0, 2}});
        checkWeighing(still, 0, 1, 0, 0);
        checkWeighing(still, 1, 0, 1, 1);
        // Two TIED ones: CHANGES (2, 1), (1, -1); PLACE 2 has (3, 3) = 2 times the first less the second.
        Pebblegate two = Nets.net(3, new int[][] {{0, 2, 0, 1, 0, 3}, {0, 1, 1, 0, 0, 3}});
        checkWeighing(two, 0, -2, 1, 1);
        // CHANGES (2, 0), (0, 3); PLACE 2 has (1, 1) = 1/2 and 1/3 of them.
        Pebblegate fractions = Nets.net(3, new int[][] {{0, 2, 0, 0, 0, 1}, {0, 0, 0, 3, 0, 1}});
        checkWeighing(fractions, 0, -3, -2, 6);
    }

    private static void checkWeighing(Pebblegate x, int w, int... numbers) {
        for (int p = 0; p < numbers.length; p++) {
            checks.due("weighing " + w + " at " + p, x.weighing(w, p), numbers[p]);
        }
    }

    private static void weight() {
        Pebblegate x = Nets.net(2, new int[][] {{2, 0, 0, 3}}, 5, 10);
        Nets.keepAs(x, 0, 1, 1);
        Nets.keepAs(x, 3, 99, 99);
        checks.due("weight of the present", x.weight(0, -1), 35);
        checks.due("weight of a KEPT one", x.weight(0, 0), 5);
        checks.due("weight of the last KEPT one", x.weight(0, 3), 495);
        x.go(0);
        checks.due("weight stays", x.weight(0, -1), 35);
        checks.due("weight, none with that number", x.weight(1, -1), 0);
        checks.due("weight(7, ..)", x.weight(7, 0), 0);
        Pebblegate against = Nets.net(2, new int[][] {{0, 2, 0, 1}}, 7, 1);
        checks.due("weight below 0", against.weight(0, -1), -5);
        checks.dueIndex(x, "weight(0, 4)", () -> x.weight(0, 4));
        checks.dueIndex(x, "weight(0, -2)", () -> x.weight(0, -2));
        checks.dueArgument(x, "weight(8, 0)", () -> x.weight(8, 0));
        checks.dueArgument(x, "weight(-1, -1)", () -> x.weight(-1, -1));
        checks.dueIndex(x, "weight: no KEPT MARKING goes ahead of w", () -> x.weight(8, 4));
    }

    private static void house() {
        Pebblegate x = new Pebblegate();
        x.begin(5);
        x.step();
        x.step();
        x.set(0, 3);
        x.set(4, 9);
        x.add(0, -4);
        x.knock();
        x.text();
        x.reached();
        int[] due = {5, 1, 1, 5, 2, 12};
        for (int what = 0; what < due.length; what++) {
            checks.due("house " + what, x.house(what), due[what]);
        }
        checks.dueArgument(x, "house(6)", () -> x.house(6));
        checks.dueArgument(x, "house(-1)", () -> x.house(-1));
    }

    private static void knock() {
        Pebblegate x = new Pebblegate();
        checks.due("knock", x.knock(), 1);
        checks.due("knock again", x.knock(), 2);
        checks.due("knock is no act", x.house(0), 0);
        checks.due("knocks", x.house(2), 2);
    }

    private static void isSound() {
        checks.due("isSound, new", new Pebblegate().isSound(), true);
        checks.due("isSound, a ring", Nets.wheel().isSound(), true);
        checks.due("isSound, MANY", Nets.spring().isSound(), true);
        checks.due("isSound, WIDE", Nets.stairs(99).isSound(), true);
        checks.due("isSound, 16", Nets.stairs(15).isSound(), true);
        checks.due("isSound above 99", Nets.net(2, new int[][] {{1, 0, 0, 3}}, 4, 99).isSound(), true);
    }

    private static void digest() {
        Pebblegate x = Nets.net(2, new int[][] {{1, 2, 3, 0}, {0, 1, 1, 0}}, 3, 4);
        x.keep(2);
        x.set(0, 1);
        x.knock();
        x.add(0, -5);
        // The row that Promise 41 tells, written out.
        long[] row = {
            2, 2, 1, 1, 2, 0, 1, 4, 3, 0, 1, 0, 0, 0, 0, 0, 3, 4, 0, 0,
            x.going(), x.reached(), x.deads(), x.rings(), x.nodes(), x.manies(), x.weighings(),
            11, 1, 1, 5, 1
        };
        checks.due("digest", x.digest(), fold(row));
        long before = x.digest();
        checks.due("digest changes nothing", x.digest(), before);
        x.knock();
        checks.due("digest knows a knock", x.digest() != before, true);
        checks.due("digest, new", new Pebblegate().digest(), fold(new long[] {
            4, 0, 0, 0, 0, 0, 0, 0, 0, 0, 0, 0, 0, 0, 0, 0, 0, 0, 0, 0, 0, 0,
            0, 1, 1, 0, 1, 0, 4, 0, 0, 0, 0, 1
        }));
    }

    private static long fold(long[] row) {
        long d = 8023;
        for (long v : row) {
            d = d * 31 + v;
        }
        return d;
    }
}
