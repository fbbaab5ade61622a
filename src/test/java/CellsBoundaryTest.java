/** The boundary cases of the promises 1 to 6, a method for each sentence that names one. */
public final class CellsBoundaryTest {
    private static final int NONE = CellPlanner.NONE;
    private static final int LOWEST = Refusal.LOWEST;
    private static final int HIGHEST = Refusal.HIGHEST;
    private static final Scene[] ALL = Scene.values();
    private static final Scene[] SETTLED = Scene.SETTLED;

    public static void main(String[] args) {
        Check.all(
                CellsBoundaryTest::scenesAreAsTheySay,
                CellsBoundaryTest::newObject,
                CellsBoundaryTest::cellX,
                CellsBoundaryTest::cellY,
                CellsBoundaryTest::cellChannel,
                CellsBoundaryTest::cellRoom,
                CellsBoundaryTest::cellIsOn,
                CellsBoundaryTest::cellNumber,
                CellsBoundaryTest::cellArgumentOutOfRange,
                CellsBoundaryTest::cellLimit,
                CellsBoundaryTest::cellBothExceptions,
                CellsBoundaryTest::turnWithoutWalkers,
                CellsBoundaryTest::turnReleasesAllItsWalkers,
                CellsBoundaryTest::turnIsNoLoss,
                CellsBoundaryTest::turnKeepsFavourites,
                CellsBoundaryTest::turnAnswers,
                CellsBoundaryTest::turnNoSuchCell,
                CellsBoundaryTest::tuneChannel,
                CellsBoundaryTest::tuneAnswers,
                CellsBoundaryTest::tuneNoSuchCell,
                CellsBoundaryTest::tuneBothExceptions,
                CellsBoundaryTest::walkerX,
                CellsBoundaryTest::walkerY,
                CellsBoundaryTest::walkerDemand,
                CellsBoundaryTest::walkerServedByNone,
                CellsBoundaryTest::walkerNumber,
                CellsBoundaryTest::walkerArgumentOutOfRange,
                CellsBoundaryTest::walkerLimit,
                CellsBoundaryTest::walkerBothExceptions,
                CellsBoundaryTest::moveToTheEdges,
                CellsBoundaryTest::moveAnyInt,
                CellsBoundaryTest::moveOutOfTheLand,
                CellsBoundaryTest::moveNoSuchWalker,
                CellsBoundaryTest::moveBothExceptions);
        Check.end("CellsBoundaryTest");
    }

    /** The refused calls are tried in these scenes, so there must be something to spoil. */
    private static void scenesAreAsTheySay() {
        for (Scene scene : ALL) {
            CellPlanner planner = scene.make();
            Check.equal(scene + " cells", scene.cells(), planner.cells());
            Check.equal(scene + " walkers", scene.walkers(), planner.walkers());
        }
        for (Scene scene : SETTLED) {
            CellPlanner planner = scene.make();
            Check.equal(scene + " favourite", 1, planner.favourite(1));
            Check.equal(scene + " held", scene == Scene.SMALL ? 1 : 2, planner.heldFor(1));
            Check.equal(scene + " handovers", 1, planner.handovers());
            scene.future(planner);
            Check.equal(scene + " rings then", 1, planner.rings());
        }
        Check.equal("walkers 3 and 4", 24, Scene.FULL.make().unserved());
    }

    private static void newObject() {
        Check.sentence("1: A land without cells and walkers.");
        CellPlanner planner = new CellPlanner();
        Check.equal("NONE", -1, NONE);
        Check.equal("cells", 0, planner.cells());
        Check.equal("walkers", 0, planner.walkers());
        Check.equal("nobody is unserved", 0, planner.unserved());
        Check.equal("nobody is handed over", 0, planner.tick(1));
        Check.equal("its first cell", 0, planner.cell(0, 0, 0, 1));
        Check.equal("its first walker", 0, planner.walker(0, 0, 1));
    }

    private static void cellX() {
        Check.sentence("2: x: 0 to 63");
        CellPlanner planner = new CellPlanner();
        planner.cell(0, 5, 0, 1);
        planner.cell(63, 5, 0, 1);
        planner.walker(0, 5, 1);
        planner.walker(63, 5, 1);
        Check.equal("at 0", 4000, planner.signal(0, 0));
        Check.equal("at 63", 4000, planner.signal(1, 1));
        Check.equal("63 between them", 16000 / (65 * 65), planner.signal(1, 0));
        Refusal.outOfRange(ALL, 0, 63, (p, x) -> p.cell(x, 5, 0, 1));
    }

    private static void cellY() {
        Check.sentence("2: y: 0 to 63");
        CellPlanner planner = new CellPlanner();
        planner.cell(5, 0, 0, 1);
        planner.cell(5, 63, 0, 1);
        planner.walker(5, 0, 1);
        planner.walker(5, 63, 1);
        Check.equal("at 0", 4000, planner.signal(0, 0));
        Check.equal("at 63", 4000, planner.signal(1, 1));
        Check.equal("63 between them", 16000 / (65 * 65), planner.signal(0, 1));
        Refusal.outOfRange(ALL, 0, 63, (p, y) -> p.cell(5, y, 0, 1));
    }

    private static void cellChannel() {
        Check.sentence("2: channel: 0 to 2");
        CellPlanner planner = new CellPlanner();
        planner.cell(0, 0, 0, 1);
        planner.cell(0, 0, 2, 1);
        Check.equal("channel 0", 0, planner.tune(0, 1));
        Check.equal("channel 2", 2, planner.tune(1, 1));
        Refusal.outOfRange(ALL, 0, 2, (p, channel) -> p.cell(0, 0, channel, 1));
    }

    private static void cellRoom() {
        Check.sentence("2: room: 1 to 40");
        Check.equal("1 is enough for 1", 1, demandServed(1, 1));
        Check.equal("1 is too little for 2", 0, demandServed(1, 2));
        Check.equal("40 is enough for 4 times 10", 40, demandServed(40, 10, 10, 10, 10));
        Check.equal("and for no more", 40, demandServed(40, 10, 10, 10, 10, 1));
        Refusal.outOfRange(ALL, 1, 40, (p, room) -> p.cell(0, 0, 0, room));
    }

    /** What a tick makes of walkers with these demands beside a cell with this room. */
    private static int demandServed(int room, int... demands) {
        CellPlanner planner = new CellPlanner();
        planner.cell(0, 0, 0, room);
        for (int demand : demands) {
            planner.walker(0, 0, demand);
        }
        planner.tick(1);
        return planner.load(0);
    }

    private static void cellIsOn() {
        Check.sentence("2: Builds a cell, which is on.");
        CellPlanner planner = new CellPlanner();
        planner.cell(0, 0, 0, 1);
        planner.walker(0, 0, 1);
        planner.tick(1);
        Check.equal("it serves at once", 0, planner.servedBy(0));
        Check.holds("it can be turned off", !planner.turn(0));
        planner.cell(0, 0, 0, 1);
        Check.holds("the next one is on too", !planner.turn(1));
    }

    private static void cellNumber() {
        Check.sentence("2: Returns its number.");
        CellPlanner planner = new CellPlanner();
        for (int number = 0; number < 5; number++) {
            Check.equal("of the same place, too", number, planner.cell(0, 0, 0, 1));
            planner.turn(number);
        }
        CellPlanner other = new CellPlanner();
        Check.badArgument("a refused one", () -> other.cell(64, 0, 0, 1));
        Check.equal("takes no number", 0, other.cell(0, 0, 0, 1));
    }

    private static void cellArgumentOutOfRange() {
        Check.sentence("2: Throws IllegalArgumentException if an argument is out of its range");
        Refusal.argument(ALL, p -> p.cell(-1, 63, 2, 40));
        Refusal.argument(ALL, p -> p.cell(63, 64, 2, 40));
        Refusal.argument(ALL, p -> p.cell(63, 63, 3, 40));
        Refusal.argument(ALL, p -> p.cell(63, 63, 2, 41));
        Refusal.argument(ALL, p -> p.cell(63, 63, 2, 0));
        Refusal.argument(ALL, p -> p.cell(64, -1, -1, 0));
        Refusal.argument(ALL, p -> p.cell(LOWEST, HIGHEST, LOWEST, HIGHEST));
    }

    private static void cellLimit() {
        Check.sentence("2: Throws IllegalStateException if there are 5 cells");
        Refusal.state(p -> p.cell(0, 0, 0, 1));
        Refusal.state(p -> p.cell(63, 63, 2, 40));
        CellPlanner planner = new CellPlanner();
        for (int cell = 0; cell < 4; cell++) {
            planner.cell(0, 0, 0, 1);
        }
        Check.equal("the fifth is built", 4, planner.cell(0, 0, 0, 1));
        for (int cell = 0; cell < 5; cell++) {
            planner.turn(cell);
        }
        Check.badState("cells that are off count", () -> planner.cell(0, 0, 0, 1));
        Check.equal("walkers come all the same", 0, planner.walker(0, 0, 1));
    }

    private static void cellBothExceptions() {
        Check.sentence("2: Where two exceptions apply, the one that is listed first is thrown.");
        Refusal.argument(new Scene[] {Scene.FULL}, p -> p.cell(-1, 0, 0, 1));
        Refusal.argument(new Scene[] {Scene.FULL}, p -> p.cell(0, 64, 0, 1));
        Refusal.argument(new Scene[] {Scene.FULL}, p -> p.cell(0, 0, 3, 1));
        Refusal.argument(new Scene[] {Scene.FULL}, p -> p.cell(0, 0, 0, 0));
        Refusal.argument(new Scene[] {Scene.FULL}, p -> p.cell(0, 0, 0, 41));
    }

    private static void turnWithoutWalkers() {
        Check.sentence("3: Turns a cell on or off.");
        CellPlanner planner = new CellPlanner();
        planner.cell(0, 0, 0, 1);
        planner.cell(0, 0, 0, 1);
        Check.holds("off", !planner.turn(1));
        Check.holds("on", planner.turn(1));
        Check.holds("the other one was on all the time", !planner.turn(0));
        planner.walker(0, 0, 1);
        planner.tick(1);
        Check.equal("the one that is on serves", 1, planner.servedBy(0));
        planner.turn(0);
        Check.equal("turned on it takes nobody away", 1, planner.servedBy(0));
    }

    private static void turnReleasesAllItsWalkers() {
        Check.sentence("3: The walkers whom it served are served by none when it goes off");
        CellPlanner planner = new CellPlanner();
        planner.cell(0, 0, 0, 30);
        planner.cell(20, 0, 1, 30);
        for (int walker = 0; walker < 6; walker++) {
            planner.walker(walker == 3 ? 20 : 0, 0, 5);
        }
        planner.tick(1);
        Check.equal("all are served", 0, planner.unserved());
        planner.turn(0);
        Check.equal("all but walker 3 no more", 63 - 8, planner.unserved());
        Check.equal("walker 3 still", 1, planner.servedBy(3));
        planner.turn(0);
        Check.equal("nor when it goes on again", 63 - 8, planner.unserved());
        planner.tick(1);
        Check.equal("but by the next tick", 0, planner.unserved());
    }

    private static void turnIsNoLoss() {
        Check.sentence("3: that is no loss");
        CellPlanner planner = Lands.twoCells();
        planner.turn(0);
        Check.equal("when it goes off", 0, planner.losses());
        planner.tick(1);
        Check.equal("nor in the next tick", 0, planner.losses());
        planner.turn(1);
        planner.tick(2);
        Check.equal("nor without any cell", 0, planner.losses());
    }

    private static void turnKeepsFavourites() {
        Check.sentence("3: Walkers of whom it was the favourite keep it as such until the next tick.");
        CellPlanner planner = Lands.twoCells();
        planner.patience(10);
        planner.move(0, 20, 0);
        planner.tick(3);
        planner.turn(1);
        Check.equal("off: still the favourite", 1, planner.favourite(0));
        Check.equal("off: held as long", 3, planner.heldFor(0));
        planner.turn(1);
        Check.equal("on: still the favourite", 1, planner.favourite(0));
        planner.tick(1);
        Check.equal("a tick that finds it on holds it longer", 4, planner.heldFor(0));
        planner.turn(1);
        planner.tick(1);
        Check.equal("a tick that finds it off drops it", NONE, planner.favourite(0));
        Check.equal("and it is not held", 0, planner.heldFor(0));
    }

    private static void turnAnswers() {
        Check.sentence("3: Returns whether it is on then.");
        CellPlanner planner = Lands.twoCells();
        for (int turn = 0; turn < 5; turn++) {
            Check.holds("turn " + turn, planner.turn(0) == (turn % 2 == 1));
        }
    }

    private static void turnNoSuchCell() {
        Check.sentence("3: Throws IndexOutOfBoundsException if there is no such cell");
        Refusal.noCell((p, cell) -> p.turn(cell));
        CellPlanner planner = Scene.FULL.make();
        Check.holds("there is a cell 4", !planner.turn(4));
        Check.holds("there is a cell 0", !planner.turn(0));
    }

    private static void tuneChannel() {
        Check.sentence("4: channel: 0 to 2");
        CellPlanner planner = Lands.twoCells();
        planner.tune(0, 0);
        Check.equal("0 is taken", 0, planner.tune(0, 2));
        Check.equal("2 is taken", 2, planner.tune(0, 1));
        Refusal.outOfRange(SETTLED, 0, 2, (p, channel) -> p.tune(0, channel));
    }

    private static void tuneAnswers() {
        Check.sentence("4: Returns the channel before.");
        CellPlanner planner = new CellPlanner();
        planner.cell(0, 0, 2, 1);
        planner.cell(0, 0, 1, 1);
        Check.equal("of cell 0", 2, planner.tune(0, 0));
        Check.equal("of cell 1", 1, planner.tune(1, 1));
        Check.equal("of cell 0 again", 0, planner.tune(0, 0));
        Check.equal("the same channel once more", 0, planner.tune(0, 0));
        planner.turn(1);
        Check.equal("of a cell that is off", 1, planner.tune(1, 2));
        Check.equal("and it was tuned", 2, planner.tune(1, 2));
    }

    private static void tuneNoSuchCell() {
        Check.sentence("4: Throws IndexOutOfBoundsException if there is no such cell");
        Refusal.noCell((p, cell) -> p.tune(cell, 2));
        CellPlanner planner = Scene.FULL.make();
        Check.equal("there is a cell 4", 1, planner.tune(4, 0));
    }

    private static void tuneBothExceptions() {
        Check.sentence("4: Where two exceptions apply, the one that is listed first is thrown.");
        Refusal.noCell((p, cell) -> p.tune(cell, 3));
        Refusal.noCell((p, cell) -> p.tune(cell, -1));
    }

    private static void walkerX() {
        Check.sentence("5: x: 0 to 63");
        CellPlanner planner = new CellPlanner();
        planner.cell(0, 9, 0, 1);
        planner.cell(63, 9, 0, 1);
        planner.walker(0, 9, 1);
        planner.walker(63, 9, 1);
        Check.equal("at 0", 4000, planner.signal(0, 0));
        Check.equal("at 63", 4000, planner.signal(1, 1));
        Refusal.outOfRange(ALL, 0, 63, (p, x) -> p.walker(x, 9, 1));
    }

    private static void walkerY() {
        Check.sentence("5: y: 0 to 63");
        CellPlanner planner = new CellPlanner();
        planner.cell(9, 0, 0, 1);
        planner.cell(9, 63, 0, 1);
        planner.walker(9, 0, 1);
        planner.walker(9, 63, 1);
        Check.equal("at 0", 4000, planner.signal(0, 0));
        Check.equal("at 63", 4000, planner.signal(1, 1));
        Refusal.outOfRange(ALL, 0, 63, (p, y) -> p.walker(9, y, 1));
    }

    private static void walkerDemand() {
        Check.sentence("5: demand: 1 to 10");
        Check.equal("1", 1, demandServed(40, 1));
        Check.equal("10", 10, demandServed(40, 10));
        Refusal.outOfRange(ALL, 1, 10, (p, demand) -> p.walker(0, 0, demand));
    }

    private static void walkerServedByNone() {
        Check.sentence("5: Lets a walker come, who is served by none.");
        CellPlanner planner = new CellPlanner();
        planner.cell(0, 0, 0, 40);
        for (int walker = 0; walker < 6; walker++) {
            planner.walker(0, 0, 1);
            Check.equal("at the cell's place", NONE, planner.servedBy(walker));
            Check.equal("no favourite", NONE, planner.favourite(walker));
            Check.equal("not held", 0, planner.heldFor(walker));
            Check.equal("no load by it", walker, planner.load(0));
            planner.tick(1);
        }
    }

    private static void walkerNumber() {
        Check.sentence("5: Returns its number.");
        CellPlanner planner = new CellPlanner();
        for (int number = 0; number < 6; number++) {
            Check.equal("of the same place, too", number, planner.walker(0, 0, 1));
        }
        CellPlanner other = new CellPlanner();
        Check.badArgument("a refused one", () -> other.walker(0, 0, 11));
        Check.equal("takes no number", 0, other.walker(0, 0, 10));
    }

    private static void walkerArgumentOutOfRange() {
        Check.sentence("5: Throws IllegalArgumentException if an argument is out of its range");
        Refusal.argument(ALL, p -> p.walker(-1, 63, 10));
        Refusal.argument(ALL, p -> p.walker(63, -1, 10));
        Refusal.argument(ALL, p -> p.walker(63, 64, 10));
        Refusal.argument(ALL, p -> p.walker(63, 63, 11));
        Refusal.argument(ALL, p -> p.walker(0, 0, 0));
        Refusal.argument(ALL, p -> p.walker(64, -1, 0));
        Refusal.argument(ALL, p -> p.walker(HIGHEST, LOWEST, HIGHEST));
    }

    private static void walkerLimit() {
        Check.sentence("5: Throws IllegalStateException if there are 6 walkers");
        Refusal.state(p -> p.walker(0, 0, 1));
        Refusal.state(p -> p.walker(63, 63, 10));
        CellPlanner planner = new CellPlanner();
        for (int walker = 0; walker < 5; walker++) {
            planner.walker(0, 0, 1);
        }
        Check.equal("the sixth comes", 5, planner.walker(0, 0, 1));
        Check.badState("the seventh not", () -> planner.walker(0, 0, 1));
        Check.equal("cells are built all the same", 0, planner.cell(0, 0, 0, 1));
    }

    private static void walkerBothExceptions() {
        Check.sentence("5: Where two exceptions apply, the one that is listed first is thrown.");
        Refusal.argument(new Scene[] {Scene.FULL}, p -> p.walker(-1, 0, 1));
        Refusal.argument(new Scene[] {Scene.FULL}, p -> p.walker(0, 64, 1));
        Refusal.argument(new Scene[] {Scene.FULL}, p -> p.walker(0, 0, 0));
        Refusal.argument(new Scene[] {Scene.FULL}, p -> p.walker(0, 0, 11));
    }

    private static void moveToTheEdges() {
        Check.sentence("6: Throws IllegalArgumentException if x or y would be out of its range: edges");
        CellPlanner planner = new CellPlanner();
        planner.cell(0, 0, 0, 1);
        planner.cell(63, 0, 0, 1);
        planner.cell(63, 63, 0, 1);
        planner.cell(0, 63, 0, 1);
        planner.walker(20, 30, 1);
        planner.move(0, -20, -30);
        Check.equal("both to 0", 4000, planner.signal(0, 0));
        planner.move(0, 63, 0);
        Check.equal("x to 63", 4000, planner.signal(1, 0));
        planner.move(0, 0, 63);
        Check.equal("y to 63", 4000, planner.signal(2, 0));
        planner.move(0, -63, 0);
        Check.equal("x to 0", 4000, planner.signal(3, 0));
        planner.move(0, 0, 0);
        Check.equal("nowhere", 4000, planner.signal(3, 0));
        planner.move(0, 63, -63);
        Check.equal("across", 4000, planner.signal(1, 0));
    }

    private static void moveAnyInt() {
        Check.sentence("6: dx: by how much x grows, any int; dy: by how much y grows, any int");
        int[] steps = {
            LOWEST, LOWEST + 1, -65536, -256, -128, -65, -64, 64, 65, 128, 256, 65536,
            HIGHEST - 63, HIGHEST - 1, HIGHEST};
        for (int step : steps) {
            Refusal.argument(SETTLED, p -> p.move(1, step, 0));
            Refusal.argument(SETTLED, p -> p.move(1, 0, step));
            Refusal.argument(SETTLED, p -> p.move(1, step, step));
            Refusal.argument(SETTLED, p -> p.move(1, step, -1 - step));
        }
    }

    private static void moveOutOfTheLand() {
        Check.sentence("6: Throws IllegalArgumentException if x or y would be out of its range");
        // Walker 0 stands at (20,0) in both scenes.
        Refusal.argument(SETTLED, p -> p.move(0, -21, 0));
        Refusal.argument(SETTLED, p -> p.move(0, 44, 0));
        Refusal.argument(SETTLED, p -> p.move(0, 0, -1));
        Refusal.argument(SETTLED, p -> p.move(0, 0, 64));
        Refusal.argument(SETTLED, p -> p.move(0, 5, 64));
        Refusal.argument(SETTLED, p -> p.move(0, 5, -1));
        Refusal.argument(SETTLED, p -> p.move(0, -21, 5));
        Refusal.argument(SETTLED, p -> p.move(0, 44, 5));
        Refusal.argument(SETTLED, p -> p.move(0, 44, -1));
        CellPlanner planner = Scene.FULL.make();
        planner.move(0, -20, 63);
        Check.equal("as far as it goes", 16000 / (64 * 64), planner.signal(0, 0));
        planner.move(0, 63, -63);
        Check.equal("and back across", 640, planner.signal(3, 0));
    }

    private static void moveNoSuchWalker() {
        Check.sentence("6: Throws IndexOutOfBoundsException if there is no such walker");
        Refusal.noWalker((p, walker) -> p.move(walker, 1, 1));
        Refusal.noWalker((p, walker) -> p.move(walker, 0, 0));
        CellPlanner planner = Scene.FULL.make();
        planner.move(5, 0, -20);
        Check.equal("there is a walker 5", 4000, planner.signal(1, 5));
    }

    private static void moveBothExceptions() {
        Check.sentence("6: Where two exceptions apply, the one that is listed first is thrown.");
        Refusal.noWalker((p, walker) -> p.move(walker, -64, 0));
        Refusal.noWalker((p, walker) -> p.move(walker, 0, HIGHEST));
    }
}
