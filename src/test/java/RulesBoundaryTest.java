/** The boundary cases of the promises 7 to 11, a method for each sentence that names one. */
public final class RulesBoundaryTest {
    private static final int NONE = CellPlanner.NONE;
    private static final Scene[] ALL = Scene.values();

    public static void main(String[] args) {
        Check.all(
                RulesBoundaryTest::marginRange,
                RulesBoundaryTest::marginAnswers,
                RulesBoundaryTest::marginOfZero,
                RulesBoundaryTest::marginOfThousand,
                RulesBoundaryTest::patienceRange,
                RulesBoundaryTest::patienceAnswers,
                RulesBoundaryTest::patienceOfOne,
                RulesBoundaryTest::patienceOfTen,
                RulesBoundaryTest::patienceLowered,
                RulesBoundaryTest::patienceRaised,
                RulesBoundaryTest::boundRange,
                RulesBoundaryTest::boundAnswers,
                RulesBoundaryTest::boundOfOne,
                RulesBoundaryTest::boundOfTenThousand,
                RulesBoundaryTest::boundOnlyByTicks,
                RulesBoundaryTest::tickRange,
                RulesBoundaryTest::tickOnEmptyLands,
                RulesBoundaryTest::tickOneByOne,
                RulesBoundaryTest::tickAnswersNone,
                RulesBoundaryTest::tickAnswersAll,
                RulesBoundaryTest::tickAnswersItsOwn,
                RulesBoundaryTest::ticksPassed);
        Check.end("RulesBoundaryTest");
    }

    private static void marginRange() {
        Check.sentence("7: margin: 0 to 1000; throws IllegalArgumentException if margin is out of its range");
        Refusal.outOfRange(ALL, 0, 1000, (p, margin) -> p.margin(margin));
        CellPlanner planner = new CellPlanner();
        planner.margin(0);
        Check.equal("0 is taken", 0, planner.margin(1000));
        Check.equal("1000 is taken", 1000, planner.margin(0));
        Check.badArgument("1001", () -> planner.margin(1001));
        Check.badArgument("-1", () -> planner.margin(-1));
        Check.equal("a refused one is not", 0, planner.margin(0));
    }

    private static void marginAnswers() {
        Check.sentence("7: Returns the margin before.");
        CellPlanner planner = new CellPlanner();
        Check.equal("at first", 20, planner.margin(7));
        Check.equal("then", 7, planner.margin(7));
        Check.equal("the same once more", 7, planner.margin(999));
        Check.equal("at last", 999, planner.margin(1));
        Check.equal("the patience is another", 2, planner.patience(2));
        Check.equal("the bound is another", 100, planner.bound(100));
    }

    private static void marginOfZero() {
        Check.sentence("7: margin: 0: a cell of the same quality is favourite, a worse one is not");
        Check.equal("the same", 1, favouriteBetween(0, 20, 10));
        Check.equal("one step worse", NONE, favouriteBetween(0, 20, 9));
        Check.equal("with a margin of 1 the same is not enough", NONE, favouriteBetween(1, 20, 10));
    }

    private static void marginOfThousand() {
        Check.sentence("7: margin: 1000: a cell that is better by 1000 is favourite, by less is not");
        Check.equal("1110 to 110", 1, favouriteBetween(1000, 46, 36));
        Check.equal("1110 to 120", NONE, favouriteBetween(1000, 44, 34));
    }

    /** The favourite of a walker at walkerX, served by cell 0 at 0; cell 1 stands at cellX. */
    private static int favouriteBetween(int margin, int cellX, int walkerX) {
        CellPlanner planner = Lands.cellsAt(40, 0, cellX);
        planner.walker(0, 0, 1);
        planner.margin(margin);
        planner.tick(1);
        planner.move(0, walkerX, 0);
        planner.tick(1);
        Check.equal("still served by cell 0", 0, planner.servedBy(0));
        return planner.favourite(0);
    }

    private static void patienceRange() {
        Check.sentence("8: ticks: 1 to 10; throws IllegalArgumentException if ticks is out of its range");
        Refusal.outOfRange(ALL, 1, 10, (p, ticks) -> p.patience(ticks));
        CellPlanner planner = new CellPlanner();
        planner.patience(1);
        Check.equal("1 is taken", 1, planner.patience(10));
        Check.equal("10 is taken", 10, planner.patience(2));
        Check.badArgument("0", () -> planner.patience(0));
        Check.badArgument("11", () -> planner.patience(11));
        Check.equal("a refused one is not", 2, planner.patience(2));
    }

    private static void patienceAnswers() {
        Check.sentence("8: Returns the patience before.");
        CellPlanner planner = new CellPlanner();
        Check.equal("at first", 2, planner.patience(9));
        Check.equal("then", 9, planner.patience(9));
        Check.equal("the same once more", 9, planner.patience(3));
        Check.equal("the margin is another", 20, planner.margin(20));
        Check.equal("the bound is another", 100, planner.bound(100));
        Check.equal("and no tick has passed", 0, planner.ticks());
    }

    private static void patienceOfOne() {
        Check.sentence("8: ticks: 1: the first tick hands over");
        CellPlanner planner = Lands.twoCells();
        planner.patience(1);
        planner.move(0, 20, 0);
        Check.equal("at once", 1, planner.tick(1));
        Check.equal("to cell 1", 1, planner.servedBy(0));
    }

    private static void patienceOfTen() {
        Check.sentence("8: ticks: 10: the tenth tick hands over");
        CellPlanner planner = Lands.twoCells();
        planner.patience(10);
        planner.move(0, 20, 0);
        for (int held = 1; held < 10; held++) {
            Check.equal("not after " + held, 0, planner.tick(1));
            Check.equal("but held", held, planner.heldFor(0));
        }
        Check.equal("after ten", 1, planner.tick(1));
        Check.equal("to cell 1", 1, planner.servedBy(0));
    }

    private static void patienceLowered() {
        Check.sentence("8: (A favourite that has been held for longer than a new patience leads to a"
                + " handover at the next tick in which it is held.)");
        for (int held = 1; held <= 9; held++) {
            for (int patience = 1; patience <= held; patience++) {
                CellPlanner planner = holding(held);
                planner.patience(patience);
                Check.equal("not by the call itself", 0, planner.servedBy(0));
                Check.equal("held " + held + ", patience " + patience, 1, planner.tick(1));
                Check.equal("to the favourite", 1, planner.servedBy(0));
            }
        }
        CellPlanner gone = holding(5);
        gone.patience(2);
        gone.move(0, -20, 0);
        Check.equal("a tick in which it is not held does not", 0, gone.tick(1));
        gone.move(0, 20, 0);
        Check.equal("and then it starts anew", 0, gone.tick(1));
        Check.equal("with the new patience", 1, gone.tick(1));
    }

    private static void patienceRaised() {
        Check.sentence("8: Sets the patience.");
        CellPlanner planner = holding(2);
        planner.patience(4);
        Check.equal("3 of 4", 0, planner.tick(1));
        Check.equal("4 of 4", 1, planner.tick(1));
    }

    /** Walker 0, served by cell 0, has had cell 1 as favourite for so many ticks. */
    private static CellPlanner holding(int ticks) {
        CellPlanner planner = Lands.twoCells();
        planner.patience(10);
        planner.move(0, 20, 0);
        planner.tick(ticks);
        Check.equal("held so far", ticks, planner.heldFor(0));
        return planner;
    }

    private static void boundRange() {
        Check.sentence("9: bound: 1 to 10000; throws IllegalArgumentException if bound is out of its range");
        Refusal.outOfRange(ALL, 1, 10000, (p, bound) -> p.bound(bound));
        CellPlanner planner = new CellPlanner();
        planner.bound(1);
        Check.equal("1 is taken", 1, planner.bound(10000));
        Check.equal("10000 is taken", 10000, planner.bound(50));
        Check.badArgument("0", () -> planner.bound(0));
        Check.badArgument("10001", () -> planner.bound(10001));
        Check.equal("a refused one is not", 50, planner.bound(50));
    }

    private static void boundAnswers() {
        Check.sentence("9: Returns the bound before.");
        CellPlanner planner = new CellPlanner();
        Check.equal("at first", 100, planner.bound(7));
        Check.equal("then", 7, planner.bound(7));
        Check.equal("the same once more", 7, planner.bound(9999));
        Check.equal("at last", 9999, planner.bound(1));
        Check.equal("the margin is another", 20, planner.margin(20));
        Check.equal("the patience is another", 2, planner.patience(2));
    }

    private static void boundOfOne() {
        Check.sentence("9: bound: 1: a quality of 0 is below it");
        CellPlanner planner = new CellPlanner();
        planner.cell(0, 0, 0, 40);
        planner.walker(63, 61, 1);
        planner.bound(1);
        planner.tick(1);
        Check.equal("the least quality without disturbance", 10, planner.quality(0, 0));
        Check.equal("is enough", 0, planner.servedBy(0));
        planner.move(0, 0, 1);
        Check.equal("no quality", 0, planner.quality(0, 0));
        planner.tick(1);
        Check.equal("is too little to keep the cell", NONE, planner.servedBy(0));
        planner.tick(1);
        Check.equal("and to get it", NONE, planner.servedBy(0));
        Check.equal("and to be served at all", 0, planner.mostServed());
    }

    private static void boundOfTenThousand() {
        Check.sentence("9: bound: 10000: a quality of 10000 is not below it");
        CellPlanner planner = new CellPlanner();
        planner.cell(0, 0, 0, 40);
        planner.walker(2, 0, 1);
        planner.bound(10000);
        Check.equal("the quality", 10000, planner.quality(0, 0));
        planner.tick(1);
        Check.equal("is enough to get the cell", 0, planner.servedBy(0));
        planner.tick(1);
        Check.equal("and to keep it", 0, planner.servedBy(0));
        planner.move(0, 1, 0);
        planner.tick(1);
        Check.equal("6400 is not", NONE, planner.servedBy(0));
    }

    private static void boundOnlyByTicks() {
        Check.sentence("9: Sets the bound.");
        CellPlanner planner = Lands.twoCells();
        planner.move(0, 5, 0);
        planner.bound(3260);
        planner.tick(1);
        Check.equal("at the bound it keeps", 0, planner.servedBy(0));
        planner.bound(3261);
        Check.equal("the call itself takes no cell away", 0, planner.servedBy(0));
        planner.tick(1);
        Check.equal("the next tick does", NONE, planner.servedBy(0));
        planner.bound(3260);
        Check.equal("the call itself gives no cell", NONE, planner.servedBy(0));
        planner.tick(1);
        Check.equal("the next tick does", 0, planner.servedBy(0));
    }

    private static void tickRange() {
        Check.sentence("10: ticks: 1 to 20; throws IllegalArgumentException if ticks is out of its range");
        Refusal.outOfRange(ALL, 1, 20, (p, ticks) -> p.tick(ticks));
        CellPlanner planner = new CellPlanner();
        planner.tick(1);
        Check.equal("1 passes", 1, planner.ticks());
        planner.tick(20);
        Check.equal("20 pass", 21, planner.ticks());
        Check.badArgument("21", () -> planner.tick(21));
        Check.badArgument("0", () -> planner.tick(0));
        Check.equal("refused ones do not", 21, planner.ticks());
    }

    private static void tickOnEmptyLands() {
        Check.sentence("10: Lets ticks pass: in a land without cells, without walkers, without both");
        CellPlanner empty = new CellPlanner();
        Check.equal("without both", 0, empty.tick(20));
        CellPlanner cells = Lands.cellsAt(1, 0, 10, 20, 30, 40);
        Check.equal("without walkers", 0, cells.tick(20));
        CellPlanner walkers = new CellPlanner();
        for (int walker = 0; walker < 6; walker++) {
            walkers.walker(0, 0, 10);
        }
        Check.equal("without cells", 0, walkers.tick(20));
        Check.equal("nobody is served", 63, walkers.unserved());
        Check.equal("nobody loses a cell", 0, walkers.losses());
        Check.equal("they pass", 60, empty.ticks() + cells.ticks() + walkers.ticks());
    }

    private static void tickOneByOne() {
        Check.sentence("10: Lets ticks pass: several in a call as in so many calls");
        for (int ticks = 1; ticks <= 20; ticks++) {
            CellPlanner together = Scene.FULL.make();
            CellPlanner apart = Scene.FULL.make();
            together.patience(2);
            apart.patience(2);
            int handovers = 0;
            for (int tick = 0; tick < ticks; tick++) {
                handovers += apart.tick(1);
            }
            Check.equal("handovers in " + ticks, handovers, together.tick(ticks));
            Check.equal("what comes after " + ticks, Scene.FULL.future(apart), Scene.FULL.future(together));
        }
    }

    private static void tickAnswersNone() {
        Check.sentence("10: Returns how many handovers there were in them: none");
        CellPlanner planner = Lands.twoCells();
        Check.equal("nothing changes", 0, planner.tick(20));
        planner.turn(0);
        Check.equal("to be served again is none", 0, planner.tick(20));
        planner.turn(1);
        Check.equal("to have no cell is none", 0, planner.tick(20));
        planner.turn(0);
        planner.tick(1);
        planner.bound(10000);
        planner.move(0, 10, 0);
        Check.equal("a loss is none", 0, planner.tick(20));
    }

    private static void tickAnswersAll() {
        Check.sentence("10: Returns how many handovers there were in them: of all walkers in all ticks");
        CellPlanner planner = Lands.cellsAt(40, 0, 20);
        for (int walker = 0; walker < 6; walker++) {
            planner.walker(0, 0, 6);
        }
        planner.tick(1);
        for (int walker = 0; walker < 6; walker++) {
            planner.move(walker, 20, 0);
        }
        planner.patience(1);
        Check.equal("six in one tick", 6, planner.tick(1));
        planner.patience(2);
        planner.move(0, -20, 0);
        planner.tick(1);
        planner.move(1, -20, 0);
        Check.equal("one in the first and one in the second", 2, planner.tick(2));
        planner.patience(10);
        planner.move(2, -20, 0);
        planner.tick(1);
        planner.move(3, -20, 0);
        Check.equal("only the one whose tenth tick it is", 1, planner.tick(9));
        Check.equal("then the other one", 1, planner.tick(1));
    }

    private static void tickAnswersItsOwn() {
        Check.sentence("10: Returns how many handovers there were in them: not those before");
        CellPlanner planner = Lands.twoCells();
        planner.patience(1);
        for (int turn = 0; turn < 6; turn++) {
            planner.move(0, turn % 2 == 0 ? 20 : -20, 0);
            Check.equal("one each time", 1, planner.tick(20));
        }
        Check.equal("none without a move", 0, planner.tick(20));
        Check.equal("though there were six", 6, planner.handovers());
    }

    private static void ticksPassed() {
        Check.sentence("11: Returns how many ticks have passed.");
        CellPlanner planner = new CellPlanner();
        Check.equal("none at first", 0, planner.ticks());
        planner.patience(10);
        planner.margin(1000);
        planner.bound(1);
        Check.equal("the rules take none", 0, planner.ticks());
        int passed = 0;
        for (int ticks = 1; ticks <= 20; ticks++) {
            planner.tick(ticks);
            passed += ticks;
            Check.equal("all of them", passed, planner.ticks());
        }
        planner.cell(0, 0, 0, 1);
        planner.walker(0, 0, 1);
        planner.move(0, 1, 0);
        planner.turn(0);
        planner.tune(0, 1);
        Check.equal("cells and walkers take none", 210, planner.ticks());
    }
}
