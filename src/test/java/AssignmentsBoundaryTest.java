/** The boundary cases of the promises 25 to 27, a method for each sentence that names one. */
public final class AssignmentsBoundaryTest {
    private static final int NONE = CellPlanner.NONE;

    public static void main(String[] args) {
        Check.all(
                AssignmentsBoundaryTest::mostServedWithoutAny,
                AssignmentsBoundaryTest::mostServedOverAllAssignments,
                AssignmentsBoundaryTest::mostServedByCellsThatAreOn,
                AssignmentsBoundaryTest::mostServedToOneOrToNone,
                AssignmentsBoundaryTest::mostServedAtLeastTheBound,
                AssignmentsBoundaryTest::mostServedWithTheUsesOfNow,
                AssignmentsBoundaryTest::mostServedNoLoadAboveItsRoom,
                AssignmentsBoundaryTest::mostServedWhoeverIsServedNow,
                AssignmentsBoundaryTest::mostDemandWithoutAny,
                AssignmentsBoundaryTest::mostDemandIsTheGreatestSum,
                AssignmentsBoundaryTest::mostDemandOfAllWalkers,
                AssignmentsBoundaryTest::mostDemandOverAllTheseAssignments,
                AssignmentsBoundaryTest::bestCellWithMostServed,
                AssignmentsBoundaryTest::bestCellWithMostServedBeforeQualities,
                AssignmentsBoundaryTest::bestCellWithTheGreatestQualities,
                AssignmentsBoundaryTest::bestCellWithTheUsesOfNow,
                AssignmentsBoundaryTest::bestCellLower,
                AssignmentsBoundaryTest::bestCellOfTheLowestWalkerWhoDiffers,
                AssignmentsBoundaryTest::bestCellNoneIsTheHighest,
                AssignmentsBoundaryTest::bestCellNone,
                AssignmentsBoundaryTest::bestCellOverAllTheseAssignments,
                AssignmentsBoundaryTest::bestCellNoSuchWalker,
                AssignmentsBoundaryTest::askingChangesNothing);
        Check.end("AssignmentsBoundaryTest");
    }

    private static CellPlanner walkersAt(CellPlanner planner, int x, int... demands) {
        for (int demand : demands) {
            planner.walker(x, 0, demand);
        }
        return planner;
    }

    private static void bestCells(String what, CellPlanner planner, int... due) {
        int[] got = new int[due.length];
        for (int walker = 0; walker < due.length; walker++) {
            got[walker] = planner.bestCell(walker);
        }
        Check.equal(what, due, got);
    }

    private static void mostServedWithoutAny() {
        Check.sentence("25: Returns how many walkers could be served at most: without any cell or walker");
        Check.equal("an empty land", 0, new CellPlanner().mostServed());
        Check.equal("without walkers", 0, Lands.cellsAt(40, 0, 1, 2, 3, 4).mostServed());
        Check.equal("without cells", 0, walkersAt(new CellPlanner(), 0, 1, 1, 1, 1, 1, 1).mostServed());
        Check.equal("one of each", 1, walkersAt(Lands.cellsAt(1, 0), 0, 1).mostServed());
        Check.equal("five and six", 6,
                walkersAt(Lands.cellsAt(2, 0, 0, 0, 0, 0), 0, 1, 1, 1, 1, 1, 1).mostServed());
    }

    private static void mostServedOverAllAssignments() {
        Check.sentence("25: over all assignments of walkers to cells");
        // Walker 0 must leave the lower, better cell to walker 1, who reaches no other.
        CellPlanner planner = Lands.cellsAt(1, 20, 40);
        planner.walker(28, 0, 1);
        planner.walker(0, 0, 1);
        planner.bound(300);
        Check.equal("each its own", 2, planner.mostServed());
        planner.tick(1);
        Check.equal("though a tick takes the best for walker 0", 0, planner.servedBy(0));
        Check.equal("and so leaves walker 1 without", NONE, planner.servedBy(1));
        CellPlanner rooms = Lands.cellsAt(5, 0, 0);
        Check.equal("2 + 3 and 4 + 1, in no such order", 4, walkersAt(rooms, 0, 2, 4, 3, 1).mostServed());
    }

    private static void mostServedByCellsThatAreOn() {
        Check.sentence("25: of walkers to cells that are on");
        CellPlanner planner = walkersAt(Lands.cellsAt(1, 0, 0, 0, 0, 0), 0, 1, 1, 1, 1, 1, 1);
        for (int cell = 0; cell < 5; cell++) {
            Check.equal("without the first " + cell, 5 - cell, planner.mostServed());
            planner.turn(cell);
        }
        Check.equal("all are off", 0, planner.mostServed());
        planner.turn(4);
        Check.equal("one is on again", 1, planner.mostServed());
    }

    private static void mostServedToOneOrToNone() {
        Check.sentence("25: each walker to one or to none");
        Check.equal("to one, though there are five", 1,
                walkersAt(Lands.cellsAt(40, 0, 0, 0, 0, 0), 0, 1).mostServed());
        Check.equal("a demand is not divided", 0, walkersAt(Lands.cellsAt(5, 0, 0), 0, 6).mostServed());
        Check.equal("to none, to serve two others", 2, walkersAt(Lands.cellsAt(5, 0), 0, 5, 3, 2).mostServed());
    }

    private static void mostServedAtLeastTheBound() {
        Check.sentence("25: with a quality of at least the bound");
        CellPlanner planner = walkersAt(Lands.cellsAt(40, 0), 38, 1, 1);
        Check.equal("at it", 2, planner.mostServed());
        planner.move(1, 1, 0);
        Check.equal("one of them below it", 1, planner.mostServed());
        planner.bound(90);
        Check.equal("both at least at it", 2, planner.mostServed());
        planner.bound(101);
        Check.equal("both below it", 0, planner.mostServed());
        CellPlanner far = walkersAt(Lands.cellsAt(40, 0), 63, 1);
        far.bound(1);
        far.move(0, 0, 61);
        Check.equal("the least bound, and a quality of 10", 1, far.mostServed());
        far.move(0, 0, 1);
        Check.equal("the least bound, and no quality", 0, far.mostServed());
        CellPlanner near = walkersAt(Lands.cellsAt(40, 0), 2, 1);
        near.bound(10000);
        Check.equal("the greatest bound, and a quality of 10000", 1, near.mostServed());
        near.move(0, 1, 0);
        Check.equal("the greatest bound, and a quality of 6400", 0, near.mostServed());
    }

    private static void mostServedWithTheUsesOfNow() {
        Check.sentence("25: with the uses of now");
        CellPlanner planner = new CellPlanner();
        planner.cell(0, 0, 0, 10);
        planner.cell(6, 0, 0, 10);
        planner.walker(0, 0, 10);
        planner.walker(3, 0, 10);
        Check.equal("nobody is served, so nothing disturbs", 2, planner.mostServed());
        planner.tick(1);
        // The full cells disturb: 64000 / 650 for walker 1 beside each of them.
        Check.equal("both cells are full", 98, planner.quality(1, 1));
        Check.equal("too much for walker 1", 1, planner.mostServed());
        planner.bound(98);
        Check.equal("but not with another bound", 2, planner.mostServed());
        planner.bound(99);
        planner.turn(0);
        planner.turn(0);
        Check.equal("nor after cell 0 was off", 2, planner.mostServed());
    }

    private static void mostServedNoLoadAboveItsRoom() {
        Check.sentence("25: and no load above its room");
        for (int demand = 1; demand <= 10; demand++) {
            Check.equal("just enough for " + demand, 1,
                    walkersAt(Lands.cellsAt(demand, 0), 0, demand).mostServed());
            Check.equal("just enough for two of " + demand, 2,
                    walkersAt(Lands.cellsAt(2 * demand, 0), 0, demand, demand).mostServed());
            Check.equal("one too few for two of " + demand, 1,
                    walkersAt(Lands.cellsAt(2 * demand - 1, 0), 0, demand, demand).mostServed());
        }
        for (int demand = 2; demand <= 10; demand++) {
            Check.equal("one too few for " + demand, 0,
                    walkersAt(Lands.cellsAt(demand - 1, 0), 0, demand).mostServed());
        }
        Check.equal("40 are full with 10 four times", 4,
                walkersAt(Lands.cellsAt(40, 0), 0, 10, 10, 10, 10, 10, 10).mostServed());
    }

    private static void mostServedWhoeverIsServedNow() {
        Check.sentence("25: over all assignments of walkers to cells that are on: whoever is served now");
        CellPlanner planner = walkersAt(Lands.cellsAt(10, 0), 0, 9);
        planner.tick(1);
        walkersAt(planner, 0, 5, 3, 2);
        Check.equal("the one served now gives way", 3, planner.mostServed());
        Check.equal("but only in the answer", 0, planner.servedBy(0));
        CellPlanner full = walkersAt(Lands.cellsAt(3, 0), 0, 1, 1, 1);
        full.tick(1);
        Check.equal("who is served counts once", 3, full.mostServed());
    }

    private static void mostDemandWithoutAny() {
        Check.sentence("26: Returns the greatest sum of demands that could be served: without any cell or walker");
        Check.equal("an empty land", 0, new CellPlanner().mostDemand());
        Check.equal("without walkers", 0, Lands.cellsAt(40, 0, 1).mostDemand());
        Check.equal("without cells", 0, walkersAt(new CellPlanner(), 0, 10).mostDemand());
        Check.equal("the least", 1, walkersAt(Lands.cellsAt(1, 0), 0, 1).mostDemand());
    }

    private static void mostDemandIsTheGreatestSum() {
        Check.sentence("26: Returns the greatest sum of demands that could be served");
        Check.equal("one great one is more than three small ones", 9,
                walkersAt(Lands.cellsAt(9, 0), 0, 2, 3, 3, 9).mostDemand());
        Check.equal("three small ones are more than a great one", 9,
                walkersAt(Lands.cellsAt(9, 0), 0, 8, 2, 3, 4).mostDemand());
        Check.equal("none fits exactly", 8, walkersAt(Lands.cellsAt(9, 0), 0, 4, 4, 4).mostDemand());
        Check.equal("over two cells", 18, walkersAt(Lands.cellsAt(9, 0, 0), 0, 7, 5, 4, 2).mostDemand());
        Check.equal("the sum, not the walkers", 10, walkersAt(Lands.cellsAt(10, 0), 0, 1, 1, 10).mostDemand());
    }

    private static void mostDemandOfAllWalkers() {
        Check.sentence("26: Returns the greatest sum of demands that could be served: of all");
        CellPlanner planner = walkersAt(Lands.cellsAt(40, 0, 0), 0, 10, 10, 10, 10, 10, 10);
        Check.equal("60 at most", 60, planner.mostDemand());
        planner.turn(1);
        Check.equal("40 in one cell", 40, planner.mostDemand());
        Check.equal("30 where 39 would fit", 30,
                walkersAt(Lands.cellsAt(39, 0), 0, 10, 10, 10, 10).mostDemand());
    }

    private static void mostDemandOverAllTheseAssignments() {
        Check.sentence("26: over all these assignments");
        CellPlanner planner = walkersAt(Lands.cellsAt(10, 0, 20), 0, 6, 6);
        Check.equal("each in its cell", 12, planner.mostDemand());
        planner.bound(331);
        Check.equal("the far one below the bound", 6, planner.mostDemand());
        planner.bound(330);
        Check.equal("at the bound", 12, planner.mostDemand());
        planner.turn(0);
        Check.equal("the near one off", 6, planner.mostDemand());
        planner.turn(1);
        Check.equal("both off", 0, planner.mostDemand());
        CellPlanner disturbed = new CellPlanner();
        disturbed.cell(0, 0, 0, 10);
        disturbed.cell(6, 0, 0, 10);
        disturbed.walker(0, 0, 10);
        disturbed.walker(3, 0, 9);
        Check.equal("without uses", 19, disturbed.mostDemand());
        disturbed.tick(1);
        Check.equal("with the uses of now", 10, disturbed.mostDemand());
    }

    private static void bestCellWithMostServed() {
        Check.sentence("27: Returns the cell of a walker in the best assignment: that with the most walkers served");
        bestCells("two small ones", walkersAt(Lands.cellsAt(10, 0), 0, 10, 4, 6), NONE, 0, 0);
        bestCells("two of three", walkersAt(Lands.cellsAt(10, 0), 0, 4, 10, 6), 0, NONE, 0);
        bestCells("one alone", walkersAt(Lands.cellsAt(10, 0), 0, 10), 0);
        CellPlanner six = walkersAt(Lands.cellsAt(2, 0, 0, 0), 0, 1, 2, 1, 1, 2, 1);
        bestCells("five of six: walker 4 is the one to leave out", six, 0, 1, 0, 2, NONE, 2);
    }

    private static void bestCellWithMostServedBeforeQualities() {
        Check.sentence("27: that with the most walkers served; of several: though the qualities are less");
        CellPlanner planner = Lands.cellsAt(10, 0);
        planner.walker(0, 0, 10);
        planner.walker(38, 0, 5);
        planner.walker(38, 0, 5);
        bestCells("100 and 100 before 40000", planner, NONE, 0, 0);
        planner.bound(101);
        bestCells("but not below the bound", planner, 0, NONE, NONE);
        CellPlanner many = Lands.cellsAt(5, 0);
        many.walker(63, 61, 5);
        many.walker(0, 0, 5);
        many.bound(1);
        bestCells("one is as good as one, so by qualities", many, NONE, 0);
    }

    private static void bestCellWithTheGreatestQualities() {
        Check.sentence("27: of several the one with the greatest sum of qualities");
        CellPlanner planner = Lands.cellsAt(10, 0, 6);
        planner.walker(4, 0, 10);
        bestCells("the nearer one, of the higher number", planner, 1);
        planner.walker(5, 0, 10);
        bestCells("who needs it more, to gain more together", planner, 0, 1);
        planner.move(1, -4, 0);
        bestCells("each its nearer one", planner, 1, 0);
        CellPlanner sums = Lands.cellsAt(10, 0);
        sums.walker(2, 0, 5);
        sums.walker(1, 0, 5);
        sums.walker(0, 0, 5);
        bestCells("the two with the greatest sum", sums, NONE, 0, 0);
        CellPlanner close = Lands.cellsAt(1, 0);
        close.walker(37, 0, 1);
        close.walker(36, 0, 1);
        bestCells("100 is less than 110", close, NONE, 0);
    }

    private static void bestCellWithTheUsesOfNow() {
        Check.sentence("27: the greatest sum of qualities: with the uses of now");
        CellPlanner planner = new CellPlanner();
        planner.cell(4, 0, 0, 10);
        planner.cell(6, 0, 1, 20);
        planner.cell(0, 0, 0, 10);
        planner.walker(4, 0, 10);
        planner.turn(1);
        planner.turn(2);
        planner.tick(1);
        planner.turn(1);
        planner.turn(2);
        planner.walker(1, 0, 10);
        bestCells("cell 0 disturbs cell 2 too much", planner, 0, 1);
        planner.turn(0);
        planner.turn(0);
        bestCells("and no more when nobody is served", planner, 0, 2);
    }

    private static void bestCellLower() {
        Check.sentence("27: of several still the one that has the lower cell");
        CellPlanner planner = walkersAt(Lands.cellsAt(40, 0, 0, 0, 0, 0), 0, 1);
        for (int cell = 0; cell < 5; cell++) {
            bestCells("the lowest that is on", planner, cell);
            planner.turn(cell);
        }
        bestCells("all are off", planner, NONE);
        CellPlanner all = walkersAt(Lands.cellsAt(40, 0, 0), 0, 6, 6, 6, 6, 6, 6);
        bestCells("six of 6 in two of 40", all, 0, 0, 0, 0, 0, 0);
        CellPlanner full = walkersAt(Lands.cellsAt(18, 0, 0), 0, 6, 6, 6, 6, 6, 6);
        bestCells("six of 6 in two of 18", full, 0, 0, 0, 1, 1, 1);
    }

    private static void bestCellOfTheLowestWalkerWhoDiffers() {
        Check.sentence("27: for the walker with the lowest number for whom they differ");
        bestCells("walker 0 first, so walker 1 gives way",
                walkersAt(Lands.cellsAt(3, 0, 0), 0, 1, 3, 2), 0, 1, 0);
        bestCells("in the other order", walkersAt(Lands.cellsAt(3, 0, 0), 0, 3, 1, 2), 0, 1, 1);
        bestCells("and in the last one", walkersAt(Lands.cellsAt(3, 0, 0), 0, 2, 1, 3), 0, 0, 1);
        // 2 + 3 and 4 + 1 are the only way; so walker 1 can't go to cell 0, but walker 2 can.
        bestCells("where the rooms leave one way", walkersAt(Lands.cellsAt(5, 0, 0), 0, 2, 4, 3, 1), 0, 1, 0, 1);
        CellPlanner swapped = Lands.cellsAt(1, 0, 8);
        swapped.walker(4, 0, 1);
        swapped.walker(4, 0, 1);
        bestCells("the same sum both ways", swapped, 0, 1);
    }

    private static void bestCellNoneIsTheHighest() {
        Check.sentence("27: the lower cell, none being the highest");
        bestCells("one of two", walkersAt(Lands.cellsAt(1, 0), 0, 1, 1), 0, NONE);
        bestCells("one of six, in the last cell", lastCellOnly(), 4, NONE, NONE, NONE, NONE, NONE);
        bestCells("four of six", walkersAt(Lands.cellsAt(4, 0, 0), 0, 2, 2, 2, 2, 2, 2), 0, 0, 1, 1, NONE, NONE);
        bestCells("three of four: none for the last",
                walkersAt(Lands.cellsAt(10, 0), 0, 3, 3, 3, 3), 0, 0, 0, NONE);
        bestCells("demands do not count, so walker 0", walkersAt(Lands.cellsAt(10, 0), 0, 1, 10), 0, NONE);
    }

    private static CellPlanner lastCellOnly() {
        CellPlanner planner = walkersAt(Lands.cellsAt(1, 0, 0, 0, 0, 0), 0, 1, 1, 1, 1, 1, 1);
        for (int cell = 0; cell < 4; cell++) {
            planner.turn(cell);
        }
        return planner;
    }

    private static void bestCellNone() {
        Check.sentence("27: Returns the number of the cell; NONE if it serves none.");
        bestCells("without cells", walkersAt(new CellPlanner(), 0, 1, 1, 1, 1, 1, 1),
                NONE, NONE, NONE, NONE, NONE, NONE);
        bestCells("without room", walkersAt(Lands.cellsAt(9, 0, 0), 0, 10, 9), NONE, 0);
        bestCells("too far off", walkersAt(Lands.cellsAt(40, 0), 39, 1), NONE);
        bestCells("not too far off", walkersAt(Lands.cellsAt(40, 0), 38, 1), 0);
    }

    private static void bestCellOverAllTheseAssignments() {
        Check.sentence("27: in the best assignment: over the assignments of promise 25");
        CellPlanner planner = walkersAt(Lands.cellsAt(10, 0, 20), 0, 6, 6);
        bestCells("each in a cell", planner, 0, 1);
        planner.bound(331);
        bestCells("the far one below the bound", planner, 0, NONE);
        planner.bound(330);
        bestCells("at the bound", planner, 0, 1);
        planner.turn(0);
        bestCells("the near one off", planner, 1, NONE);
        planner.turn(0);
        planner.tick(1);
        bestCells("whoever is served now", planner, 0, 1);
        CellPlanner same = walkersAt(Lands.cellsAt(40, 0, 0), 0, 6);
        same.turn(0);
        same.tick(1);
        same.turn(0);
        Check.equal("served by cell 1", 1, same.servedBy(0));
        bestCells("but cell 0 is as good", same, 0);
    }

    private static void bestCellNoSuchWalker() {
        Check.sentence("27: Throws IndexOutOfBoundsException if there is no such walker");
        Refusal.noWalker((p, walker) -> p.bestCell(walker));
        Check.equal("there is a walker 5", 4, Scene.FULL.make().bestCell(5));
    }

    private static void askingChangesNothing() {
        Check.sentence("25 to 27: could be served");
        for (Scene scene : Scene.values()) {
            CellPlanner asked = scene.make();
            asked.mostServed();
            asked.mostDemand();
            for (int walker = 0; walker < scene.walkers(); walker++) {
                asked.bestCell(walker);
            }
            Check.equal("nobody is, by asking", scene.future(scene.make()), scene.future(asked));
        }
    }
}
