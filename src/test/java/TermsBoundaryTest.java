/** The boundary cases that 'Terms' names for all promises, a method for each sentence. */
public final class TermsBoundaryTest {
    private static final int NONE = CellPlanner.NONE;

    public static void main(String[] args) {
        Check.all(
                TermsBoundaryTest::noCell,
                TermsBoundaryTest::calls512,
                TermsBoundaryTest::askedBetween,
                TermsBoundaryTest::placesAtTheEdges,
                TermsBoundaryTest::distanceWithoutSign,
                TermsBoundaryTest::roomAtMost,
                TermsBoundaryTest::roomOfTheFavourite,
                TermsBoundaryTest::useRoundedDown,
                TermsBoundaryTest::useRoundedDownAsItDisturbs,
                TermsBoundaryTest::signalRoundedDown,
                TermsBoundaryTest::qualityRoundedDown,
                TermsBoundaryTest::qualityWithoutDisturbance,
                TermsBoundaryTest::eachOtherCellDisturbs,
                TermsBoundaryTest::disturbanceRoundedDownForEachCell,
                TermsBoundaryTest::walkersByRisingNumbers,
                TermsBoundaryTest::usesOfTheBeginning,
                TermsBoundaryTest::usesOfTheBeginningStay,
                TermsBoundaryTest::usesOfEachTick,
                TermsBoundaryTest::lossBelowTheBound,
                TermsBoundaryTest::lossUntilALaterTick,
                TermsBoundaryTest::lossIsALoss,
                TermsBoundaryTest::throwingChangesNothing);
        Check.end("TermsBoundaryTest");
    }

    private static void noCell() {
        Check.sentence("NONE = -1: No cell.");
        Check.equal("the constant", -1, NONE);
        CellPlanner planner = new CellPlanner();
        planner.walker(0, 0, 1);
        Check.equal("servedBy", -1, planner.servedBy(0));
        Check.equal("favourite", -1, planner.favourite(0));
        Check.equal("bestCell", -1, planner.bestCell(0));
    }

    private static void calls512() {
        Check.sentence("An object is used for at most 512 calls after it has been made");
        CellPlanner planner = new CellPlanner();
        planner.cell(0, 0, 0, 40);
        planner.cell(20, 0, 1, 40);
        planner.walker(20, 0, 4);
        int handovers = 0;
        // 3 calls, and 2 in each of 254 rounds, so that the last one asked is the 512th.
        for (int round = 0; round < 254; round++) {
            planner.move(0, round % 2 == 0 ? -20 : 20, 0);
            handovers += planner.tick(20);
        }
        Check.equal("one in each round but the first", 253, handovers);
        Check.equal("the 512th call", 254 * 20, planner.ticks());
    }

    private static void askedBetween() {
        Check.sentence("Walkers are moved and ticks pass by calls; between that, cells and walkers can"
                + " be asked, also what the best assignment would be.");
        for (Scene scene : Scene.values()) {
            CellPlanner asked = scene.make();
            new Answers(asked).addAll();
            Check.equal("nothing comes of it", scene.future(scene.make()), scene.future(asked));
        }
    }

    private static void placesAtTheEdges() {
        Check.sentence("The land has the places with whole x and y from 0 to 63.");
        int[] edges = {0, 63};
        for (int x : edges) {
            for (int y : edges) {
                CellPlanner planner = new CellPlanner();
                planner.cell(x, y, 0, 1);
                planner.walker(x, y, 1);
                planner.walker(63 - x, 63 - y, 1);
                planner.walker(63 - x, y, 1);
                Check.equal("in the corner", 4000, planner.signal(0, 0));
                Check.equal("126 from it", 0, planner.signal(0, 1));
                Check.equal("63 from it", 3, planner.signal(0, 2));
            }
        }
    }

    private static void distanceWithoutSign() {
        Check.sentence("The distance of two places is the difference of their x plus the difference"
                + " of their y, both without sign.");
        CellPlanner planner = new CellPlanner();
        planner.cell(30, 40, 0, 1);
        int[][] steps = {{-3, -2}, {-3, 2}, {3, -2}, {3, 2}, {-2, 3}, {2, -3}};
        for (int walker = 0; walker < steps.length; walker++) {
            planner.walker(30 + steps[walker][0], 40 + steps[walker][1], 1);
            Check.equal("3 and 2", 16000 / 49, planner.signal(0, walker));
        }
        planner.move(0, 3, 0);
        Check.equal("0 and 2", 1000, planner.signal(0, 0));
        planner.move(0, 0, 2);
        Check.equal("0 and 0", 4000, planner.signal(0, 0));
    }

    private static void roomAtMost() {
        Check.sentence("it has room for a walker whom it does not serve if its load and the demand"
                + " of that walker are together at most its room");
        for (int demand = 1; demand <= 10; demand++) {
            Check.equal("empty, just enough", 0, unservedBeside(demand, demand));
            Check.equal("empty, more than enough", 0, unservedBeside(demand + 1, demand));
            Check.equal("with 3, just enough", 0, unservedBeside(3 + demand, 3, demand));
            Check.equal("with 3, one too few", 2, unservedBeside(2 + demand, 3, demand));
        }
        for (int demand = 2; demand <= 10; demand++) {
            Check.equal("empty, one too few", 1, unservedBeside(demand - 1, demand));
        }
        Check.equal("the great one not, the small one still", 2, unservedBeside(7, 5, 3, 2));
        Check.equal("full, even for a demand of 1", 32, unservedBeside(40, 10, 10, 10, 9, 1, 1));
    }

    /** The walkers with these demands who find no room, after a tick, in a cell with this room. */
    private static int unservedBeside(int room, int... demands) {
        CellPlanner planner = new CellPlanner();
        planner.cell(0, 0, 0, room);
        for (int demand : demands) {
            planner.walker(0, 0, demand);
        }
        planner.tick(1);
        return planner.unserved();
    }

    private static void roomOfTheFavourite() {
        Check.sentence("of the other cells that are on and have room for the walker");
        for (int room = 6; room <= 8; room++) {
            CellPlanner planner = new CellPlanner();
            planner.cell(0, 0, 0, 40);
            planner.cell(20, 0, 1, room);
            planner.walker(0, 0, 4);
            planner.walker(20, 0, 3);
            planner.tick(1);
            planner.move(0, 20, 0);
            planner.tick(1);
            Check.equal("3 and 4 in a room of " + room, room >= 7 ? 1 : NONE, planner.favourite(0));
            planner.tick(1);
            Check.equal("and so handed over", room >= 7 ? 7 : 3, planner.load(1));
            planner.tick(5);
            Check.equal("who fills a cell keeps it", room >= 7 ? 1 : 0, planner.servedBy(0));
        }
    }

    private static void useRoundedDown() {
        Check.sentence("The use of a cell is 100 times its load, divided by its room, rounded down.");
        int[][] cases = {
            {1, 1, 100}, {1, 3, 33}, {2, 3, 66}, {1, 40, 2}, {6, 7, 85}, {7, 8, 87}, {9, 40, 22},
            {10, 11, 90}, {10, 39, 25}, {1, 6, 16}};
        for (int[] loadRoomUse : cases) {
            CellPlanner planner = new CellPlanner();
            planner.cell(0, 0, 0, loadRoomUse[1]);
            planner.walker(0, 0, loadRoomUse[0]);
            planner.tick(1);
            Check.equal(loadRoomUse[0] + " of " + loadRoomUse[1], loadRoomUse[2], planner.use(0));
        }
    }

    private static void useRoundedDownAsItDisturbs() {
        Check.sentence("by its signal for the walker, times its use");
        CellPlanner planner = new CellPlanner();
        planner.cell(0, 0, 0, 3);
        planner.cell(0, 0, 0, 3);
        planner.walker(0, 0, 2);
        planner.tick(1);
        // 4000 times 66 in 100, and not two thirds of 4000.
        Check.equal("not disturbed", 40000, planner.quality(0, 0));
        Check.equal("two thirds are 66", 400000 / (10 + 2640), planner.quality(1, 0));
        planner.tune(1, 1);
        Check.equal("tuned away", 40000, planner.quality(1, 0));
    }

    private static void signalRoundedDown() {
        Check.sentence("The signal of a cell for a walker is 16000 / ((d + 2) * (d + 2)), rounded"
                + " down, with the distance d of both, whether the cell is on or off.");
        CellPlanner planner = new CellPlanner();
        planner.cell(0, 0, 0, 1);
        planner.walker(0, 0, 1);
        for (int d = 0; d <= 126; d++) {
            int due = 16000 / ((d + 2) * (d + 2));
            Check.equal("distance " + d, due, planner.signal(0, 0));
            planner.turn(0);
            if (d < 126) {
                planner.move(0, d < 63 ? 1 : 0, d < 63 ? 0 : 1);
            }
        }
        Check.equal("across the land", 0, planner.signal(0, 0));
    }

    private static void qualityRoundedDown() {
        Check.sentence("The quality of a cell for a walker is 100 times its signal, divided by the"
                + " sum of 10 and the disturbances, rounded down.");
        CellPlanner planner = new CellPlanner();
        planner.cell(0, 0, 0, 1);
        planner.cell(10, 0, 0, 1);
        planner.walker(0, 0, 1);
        planner.tick(1);
        // 11100 / 4010 are 2.7; and 0 / 10 at last.
        Check.equal("2 and a part", 2, planner.quality(1, 0));
        planner.move(0, 63, 63);
        Check.equal("none at all", 0, planner.quality(0, 0));
        planner.move(0, -3, -63);
        // To 60: signals of 4 and 5.
        Check.equal("400 / 10", 40, planner.quality(0, 0));
        Check.equal("500 / 14", 35, planner.quality(1, 0));
    }

    private static void qualityWithoutDisturbance() {
        Check.sentence("divided by the sum of 10 and the disturbances: without any");
        CellPlanner planner = new CellPlanner();
        planner.cell(0, 0, 0, 1);
        planner.walker(0, 0, 1);
        Check.equal("a single cell", 40000, planner.quality(0, 0));
        planner.tick(1);
        Check.equal("full, but it does not disturb itself", 40000, planner.quality(0, 0));
        planner.cell(0, 0, 0, 1);
        Check.equal("beside an empty one", 40000, planner.quality(0, 0));
        Check.equal("but that is disturbed", 99, planner.quality(1, 0));
    }

    private static void eachOtherCellDisturbs() {
        Check.sentence("Each other cell that is on and has the same channel disturbs");
        CellPlanner planner = new CellPlanner();
        for (int cell = 0; cell < 5; cell++) {
            planner.cell(cell * 10, 0, 0, 1);
            planner.walker(cell * 10, 0, 1);
        }
        planner.walker(20, 0, 1);
        planner.bound(1);
        for (int cell = 0; cell < 5; cell++) {
            planner.tune(cell, cell % 3);
        }
        planner.tick(1);
        Check.equal("all are full, one walker is left", 32, planner.unserved());
        Check.equal("no other one has channel 2", 40000, planner.quality(2, 5));
        planner.tune(3, 2);
        Check.equal("one of them has", 400000 / (10 + 111), planner.quality(2, 5));
        planner.tune(0, 2);
        planner.tune(1, 2);
        planner.tune(4, 2);
        Check.equal("all of them have", 400000 / (10 + 111 + 111 + 33 + 33), planner.quality(2, 5));
        planner.turn(4);
        Check.equal("one of them is off", 400000 / (10 + 111 + 111 + 33), planner.quality(2, 5));
        planner.turn(4);
        Check.equal("on again it serves nobody yet", 400000 / (10 + 111 + 111 + 33), planner.quality(2, 5));
    }

    private static void disturbanceRoundedDownForEachCell() {
        Check.sentence("by its signal for the walker, times its use, divided by 100, rounded down"
                + " for each cell");
        Check.equal("two halves are none", 40000, besideTwoFarCells(2));
        Check.equal("two wholes are two", 400000 / 12, besideTwoFarCells(1));
    }

    /** A quality beside two cells with a signal of 1 that serve a walker with a demand of 1 each. */
    private static int besideTwoFarCells(int room) {
        CellPlanner planner = new CellPlanner();
        planner.cell(0, 0, 0, 1);
        planner.cell(63, 61, 0, room);
        planner.cell(61, 63, 0, room);
        planner.walker(0, 0, 1);
        planner.walker(63, 61, 1);
        planner.walker(61, 63, 1);
        planner.tick(1);
        Check.equal("all are served", 0, planner.unserved());
        Check.equal("far off", 1, planner.signal(1, 0));
        Check.equal("as far off", 1, planner.signal(2, 0));
        return planner.quality(0, 0);
    }

    private static void walkersByRisingNumbers() {
        Check.sentence("A tick goes through the walkers by rising numbers.");
        CellPlanner planner = Lands.cellsAt(5, 0);
        for (int walker = 0; walker < 6; walker++) {
            planner.walker(0, 0, 5);
        }
        planner.tick(1);
        Check.equal("the first one gets the room", 62, planner.unserved());
        planner.move(0, 63, 0);
        planner.tick(1);
        Check.equal("lost by walker 0, got by walker 1 at once", 61, planner.unserved());
        planner.move(1, 63, 0);
        planner.move(0, -63, 0);
        planner.tick(1);
        Check.equal("lost by walker 1, got by walker 2, not by walker 0", 59, planner.unserved());
        for (int walker = 2; walker < 6; walker++) {
            planner.move(walker, 63, 0);
        }
        planner.tick(1);
        Check.equal("lost too late for walker 0", 63, planner.unserved());
        planner.tick(1);
        Check.equal("who gets it in the next tick", 62, planner.unserved());
    }

    private static void usesOfTheBeginning() {
        Check.sentence("For each of them all qualities are found as things are at that moment, but"
                + " for uses: those are the ones that cells had at the beginning of the tick.");
        CellPlanner planner = new CellPlanner();
        planner.cell(0, 0, 0, 10);
        planner.cell(6, 0, 0, 10);
        planner.walker(0, 0, 10);
        planner.walker(2, 0, 5);
        planner.tick(1);
        Check.equal("walker 0 fills cell 0", 100, planner.use(0));
        Check.equal("which had no use at the beginning", 1, planner.servedBy(1));
        Check.equal("but disturbs now", 44400 / (10 + 1000), planner.quality(1, 1));
    }

    private static void usesOfTheBeginningStay() {
        Check.sentence("those are the ones that cells had at the beginning of the tick: though the"
                + " cell is empty by then");
        CellPlanner planner = new CellPlanner();
        planner.cell(0, 0, 0, 10);
        planner.cell(14, 0, 0, 10);
        planner.walker(0, 0, 10);
        planner.tick(1);
        planner.walker(10, 0, 5);
        planner.move(0, 63, 63);
        planner.tick(1);
        Check.equal("walker 0 has lost cell 0", NONE, planner.servedBy(0));
        // Cell 0: 11100 / 10; cell 1: 44400 / (10 + 111), but 4440 with the uses of that moment.
        Check.equal("its use still disturbs cell 1", 0, planner.servedBy(1));
    }

    private static void usesOfEachTick() {
        Check.sentence("those are the ones that cells had at the beginning of the tick: of each tick"
                + " of a call");
        CellPlanner planner = new CellPlanner();
        planner.cell(0, 0, 0, 10);
        planner.cell(6, 0, 0, 10);
        planner.walker(0, 0, 10);
        planner.walker(2, 0, 5);
        planner.tick(2);
        Check.equal("disturbed in the second tick", 1, planner.losses());
        Check.equal("and so lost", NONE, planner.servedBy(1));
        planner.tick(18);
        Check.equal("and not got again", 1, planner.losses());
    }

    private static void lossBelowTheBound() {
        Check.sentence("A walker who is served by a cell whose quality is below the bound loses it");
        CellPlanner planner = Lands.cellsAt(40, 0);
        planner.walker(0, 0, 1);
        planner.tick(1);
        planner.move(0, 38, 0);
        planner.tick(1);
        Check.equal("its quality", 100, planner.quality(0, 0));
        Check.equal("at the bound", 0, planner.servedBy(0));
        planner.move(0, 1, 0);
        Check.equal("its quality", 90, planner.quality(0, 0));
        planner.bound(90);
        planner.tick(1);
        Check.equal("at the other bound", 0, planner.servedBy(0));
        planner.bound(91);
        planner.tick(1);
        Check.equal("one below it", NONE, planner.servedBy(0));
    }

    private static void lossUntilALaterTick() {
        Check.sentence("and is served by none then, until a later tick at least");
        CellPlanner planner = Lands.cellsAt(40, 0, 50);
        planner.walker(0, 0, 1);
        planner.tick(1);
        planner.move(0, 50, 0);
        planner.tick(1);
        Check.equal("though there is a better cell", NONE, planner.servedBy(0));
        Check.equal("no favourite either", NONE, planner.favourite(0));
        planner.tick(1);
        Check.equal("by the next tick", 1, planner.servedBy(0));
        planner.move(0, -50, 0);
        planner.tick(2);
        Check.equal("the next tick of the same call", 0, planner.servedBy(0));
        Check.equal("that is no handover", 0, planner.handovers());
    }

    private static void lossIsALoss() {
        Check.sentence("That is a loss.");
        CellPlanner planner = Lands.cellsAt(40, 0, 50);
        planner.walker(0, 0, 1);
        planner.walker(63, 63, 1);
        planner.tick(1);
        planner.move(0, 50, 0);
        Check.equal("not before the tick", 0, planner.losses());
        planner.tick(1);
        Check.equal("one, and none of who was served by none", 1, planner.losses());
        planner.tick(1);
        planner.move(0, -50, 0);
        planner.tick(1);
        Check.equal("the same walker once more", 2, planner.losses());
    }

    private static void throwingChangesNothing() {
        Check.sentence("A call that throws changes nothing.");
        for (Scene scene : Scene.values()) {
            CellPlanner planner = scene.make();
            for (int bad : new int[] {-1, 64, Refusal.LOWEST, Refusal.HIGHEST}) {
                refusedRanges(planner, bad);
                refusedNumbers(planner, bad);
            }
            Check.equal(scene + " after all of them", scene.future(scene.make()), scene.future(planner));
        }
    }

    /** Calls that an argument beyond each range is refused by, in a row on the same object. */
    private static void refusedRanges(CellPlanner planner, int bad) {
        Check.badArgument("cell x", () -> planner.cell(bad, 0, 0, 1));
        Check.badArgument("cell y", () -> planner.cell(0, bad, 0, 1));
        Check.badArgument("cell channel", () -> planner.cell(0, 0, bad, 1));
        Check.badArgument("cell room", () -> planner.cell(0, 0, 0, bad));
        Check.badArgument("walker x", () -> planner.walker(bad, 0, 1));
        Check.badArgument("walker y", () -> planner.walker(0, bad, 1));
        Check.badArgument("walker demand", () -> planner.walker(0, 0, bad));
        Check.badArgument("margin", () -> planner.margin(bad == 64 ? 1001 : bad));
        Check.badArgument("patience", () -> planner.patience(bad));
        Check.badArgument("bound", () -> planner.bound(bad == 64 ? 10001 : bad));
        Check.badArgument("tick", () -> planner.tick(bad));
    }

    private static void refusedNumbers(CellPlanner planner, int bad) {
        Check.badIndex("turn", () -> planner.turn(bad));
        Check.badIndex("tune", () -> planner.tune(bad, 0));
        Check.badIndex("move", () -> planner.move(bad, 0, 0));
        Check.badIndex("signal", () -> planner.signal(bad, bad));
        Check.badIndex("quality", () -> planner.quality(bad, bad));
        Check.badIndex("load", () -> planner.load(bad));
        Check.badIndex("use", () -> planner.use(bad));
        Check.badIndex("servedBy", () -> planner.servedBy(bad));
        Check.badIndex("favourite", () -> planner.favourite(bad));
        Check.badIndex("heldFor", () -> planner.heldFor(bad));
        Check.badIndex("bestCell", () -> planner.bestCell(bad));
    }
}
