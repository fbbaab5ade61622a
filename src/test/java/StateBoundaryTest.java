/** The boundary cases of the promises 12 to 24, a method for each sentence that names one. */
public final class StateBoundaryTest {
    private static final int NONE = CellPlanner.NONE;

    public static void main(String[] args) {
        Check.all(
                StateBoundaryTest::cells,
                StateBoundaryTest::walkers,
                StateBoundaryTest::signalNearAndFar,
                StateBoundaryTest::signalNoSuchCellOrWalker,
                StateBoundaryTest::qualityWithTheUsesOfNow,
                StateBoundaryTest::qualityOnOrOff,
                StateBoundaryTest::qualityNoSuchCellOrWalker,
                StateBoundaryTest::loadOfNobodyAndOfAll,
                StateBoundaryTest::loadOff,
                StateBoundaryTest::loadNoSuchCell,
                StateBoundaryTest::useFromEmptyToFull,
                StateBoundaryTest::useOff,
                StateBoundaryTest::useNoSuchCell,
                StateBoundaryTest::servedByNone,
                StateBoundaryTest::servedByLastCell,
                StateBoundaryTest::servedByNoSuchWalker,
                StateBoundaryTest::favouriteAsTheTickLeftIt,
                StateBoundaryTest::favouriteNone,
                StateBoundaryTest::favouriteNoSuchWalker,
                StateBoundaryTest::heldForWithoutFavourite,
                StateBoundaryTest::heldForLong,
                StateBoundaryTest::heldForNoSuchWalker,
                StateBoundaryTest::handovers,
                StateBoundaryTest::rings,
                StateBoundaryTest::losses,
                StateBoundaryTest::unservedEmptyAndFull,
                StateBoundaryTest::unservedEachAlone);
        Check.end("StateBoundaryTest");
    }

    private static void cells() {
        Check.sentence("12: Returns the number of cells.");
        CellPlanner planner = new CellPlanner();
        for (int cells = 0; cells < 5; cells++) {
            Check.equal("so far", cells, planner.cells());
            planner.cell(0, 0, 0, 1);
        }
        Check.badState("the sixth", () -> planner.cell(0, 0, 0, 1));
        Check.equal("at most", 5, planner.cells());
        planner.turn(4);
        planner.walker(0, 0, 1);
        Check.equal("cells that are off count, walkers do not", 5, planner.cells());
    }

    private static void walkers() {
        Check.sentence("13: Returns the number of walkers.");
        CellPlanner planner = new CellPlanner();
        for (int walkers = 0; walkers < 6; walkers++) {
            Check.equal("so far", walkers, planner.walkers());
            planner.walker(0, 0, 1);
        }
        Check.badState("the seventh", () -> planner.walker(0, 0, 1));
        Check.equal("at most", 6, planner.walkers());
        planner.cell(0, 0, 0, 3);
        planner.tick(1);
        Check.equal("served ones count, cells do not", 6, planner.walkers());
    }

    private static void signalNearAndFar() {
        Check.sentence("14: Returns the signal of a cell for a walker.");
        CellPlanner planner = new CellPlanner();
        planner.cell(0, 0, 0, 1);
        planner.walker(0, 0, 1);
        Check.equal("the greatest", 4000, planner.signal(0, 0));
        planner.move(0, 63, 61);
        Check.equal("at 124: the last that is not none", 1, planner.signal(0, 0));
        planner.move(0, 0, 1);
        Check.equal("at 125: none", 0, planner.signal(0, 0));
        planner.move(0, 0, 1);
        Check.equal("at 126, across the land: none", 0, planner.signal(0, 0));
        planner.turn(0);
        planner.move(0, -63, -63);
        Check.equal("of a cell that is off", 4000, planner.signal(0, 0));
    }

    private static void signalNoSuchCellOrWalker() {
        Check.sentence("14: Throws IndexOutOfBoundsException if there is no such cell or walker");
        Refusal.noCellBesideWalkers((p, cell) -> p.signal(cell, 0));
        Refusal.noWalkerBesideCells((p, walker) -> p.signal(0, walker));
        Refusal.noWalker((p, number) -> p.signal(number, number));
        Refusal.noCell((p, cell) -> p.signal(cell, -1));
        Refusal.noWalker((p, walker) -> p.signal(5, walker));
        CellPlanner planner = Scene.FULL.make();
        Check.equal("there are a cell 4 and a walker 5", 4000, planner.signal(4, 5));
    }

    private static void qualityWithTheUsesOfNow() {
        Check.sentence("15: Returns the quality of a cell for a walker, with the uses of now");
        CellPlanner planner = new CellPlanner();
        planner.cell(0, 0, 0, 10);
        planner.cell(0, 2, 0, 10);
        planner.walker(0, 0, 5);
        Check.equal("before anybody is served", 10000, planner.quality(1, 0));
        planner.tick(1);
        Check.equal("after a tick, without another one", 100 * 1000 / (10 + 2000), planner.quality(1, 0));
        planner.walker(0, 0, 5);
        planner.tick(1);
        Check.equal("full", 100 * 1000 / (10 + 4000), planner.quality(1, 0));
        planner.turn(0);
        Check.equal("empty at once, without a tick", 10000, planner.quality(1, 0));
        planner.tick(1);
        Check.equal("the other one is full now", 4000 * 100 / (10 + 1000), planner.quality(0, 0));
        planner.tune(1, 1);
        Check.equal("tuned away at once, without a tick", 40000, planner.quality(0, 0));
        planner.move(0, 63, 63);
        Check.equal("as far as can be", 0, planner.quality(0, 0));
    }

    private static void qualityOnOrOff() {
        Check.sentence("15: whether the cell is on or off");
        CellPlanner planner = Lands.twoCells();
        planner.tune(1, 0);
        int disturbed = 100 * 33 / (10 + 4000 * 10 / 100);
        Check.equal("on", disturbed, planner.quality(1, 0));
        planner.turn(1);
        Check.equal("off, disturbed as well", disturbed, planner.quality(1, 0));
        planner.turn(0);
        Check.equal("off, undisturbed", 330, planner.quality(1, 0));
        Check.equal("the other one", 40000, planner.quality(0, 0));
    }

    private static void qualityNoSuchCellOrWalker() {
        Check.sentence("15: Throws IndexOutOfBoundsException if there is no such cell or walker");
        Refusal.noCellBesideWalkers((p, cell) -> p.quality(cell, 0));
        Refusal.noWalkerBesideCells((p, walker) -> p.quality(0, walker));
        Refusal.noWalker((p, number) -> p.quality(number, number));
        Refusal.noCell((p, cell) -> p.quality(cell, -1));
        Refusal.noWalker((p, walker) -> p.quality(5, walker));
        CellPlanner planner = Scene.FULL.make();
        Check.equal("there are a cell 4 and a walker 5", 400000 / (10 + 3), planner.quality(4, 5));
    }

    private static void loadOfNobodyAndOfAll() {
        Check.sentence("16: Returns the load of a cell.");
        CellPlanner planner = new CellPlanner();
        planner.cell(0, 0, 0, 40);
        Check.equal("without walkers", 0, planner.load(0));
        int load = 0;
        for (int demand = 4; demand <= 9; demand++) {
            planner.walker(0, 0, demand);
            Check.equal("before it is served", load, planner.load(0));
            planner.tick(1);
            load += demand;
            Check.equal("together", load, planner.load(0));
        }
        Check.equal("all six", 39, planner.load(0));
        planner.move(5, 63, 63);
        Check.equal("a move takes nothing off", 39, planner.load(0));
        planner.tick(1);
        Check.equal("a loss does", 30, planner.load(0));
    }

    private static void loadOff() {
        Check.sentence("16: Returns the load; 0 if it is off.");
        CellPlanner planner = Lands.twoCells();
        planner.turn(0);
        Check.equal("it has served somebody", 0, planner.load(0));
        planner.tick(3);
        Check.equal("after ticks", 0, planner.load(0));
        planner.turn(1);
        Check.equal("both are off", 0, planner.load(1));
        planner.turn(1);
        planner.turn(0);
        Check.equal("on again, before a tick", 0, planner.load(0));
    }

    private static void loadNoSuchCell() {
        Check.sentence("16: Throws IndexOutOfBoundsException if there is no such cell");
        Refusal.noCell((p, cell) -> p.load(cell));
        Check.equal("there is a cell 4", 7, Scene.FULL.make().load(4));
    }

    private static void useFromEmptyToFull() {
        Check.sentence("17: Returns the use, 0 to 100.");
        for (int room = 1; room <= 40; room++) {
            CellPlanner planner = new CellPlanner();
            planner.cell(0, 0, 0, room);
            Check.equal("empty, room " + room, 0, planner.use(0));
            planner.walker(0, 0, 1);
            planner.tick(1);
            Check.equal("1 of " + room, 100 / room, planner.use(0));
            int left = room - 1;
            while (left > 0) {
                planner.walker(0, 0, Math.min(left, 10));
                left -= Math.min(left, 10);
            }
            planner.tick(1);
            Check.equal("full, room " + room, 100, planner.use(0));
        }
    }

    private static void useOff() {
        Check.sentence("17: Returns the use, 0 to 100: of a cell that is off");
        CellPlanner planner = Lands.twoCells();
        Check.equal("on", 10, planner.use(0));
        planner.turn(0);
        Check.equal("off", 0, planner.use(0));
        planner.turn(0);
        Check.equal("on again, before a tick", 0, planner.use(0));
    }

    private static void useNoSuchCell() {
        Check.sentence("17: Throws IndexOutOfBoundsException if there is no such cell");
        Refusal.noCell((p, cell) -> p.use(cell));
        Check.equal("there is a cell 4", 100, Scene.FULL.make().use(4));
    }

    private static void servedByNone() {
        Check.sentence("18: Returns the number of the cell; NONE if none does.");
        CellPlanner planner = new CellPlanner();
        planner.walker(0, 0, 2);
        Check.equal("in a land without cells", NONE, planner.servedBy(0));
        planner.tick(1);
        Check.equal("nor after a tick", NONE, planner.servedBy(0));
        planner.cell(0, 0, 0, 1);
        planner.tick(1);
        Check.equal("without room", NONE, planner.servedBy(0));
        planner.cell(0, 0, 1, 2);
        Check.equal("before a tick", NONE, planner.servedBy(0));
        planner.tick(1);
        Check.equal("served", 1, planner.servedBy(0));
        planner.move(0, 63, 0);
        Check.equal("too far off, but before a tick", 1, planner.servedBy(0));
        planner.tick(1);
        Check.equal("lost", NONE, planner.servedBy(0));
        planner.move(0, -63, 0);
        planner.tick(1);
        planner.turn(1);
        Check.equal("turned off", NONE, planner.servedBy(0));
    }

    private static void servedByLastCell() {
        Check.sentence("18: Returns the cell that serves a walker.");
        CellPlanner planner = Lands.cellsAt(2, 0, 15, 30, 45, 60);
        for (int walker = 0; walker < 6; walker++) {
            planner.walker(Math.min(60, walker * 15), 0, 1);
        }
        planner.tick(1);
        for (int walker = 0; walker < 6; walker++) {
            Check.equal("walker " + walker, Math.min(4, walker), planner.servedBy(walker));
        }
    }

    private static void servedByNoSuchWalker() {
        Check.sentence("18: Throws IndexOutOfBoundsException if there is no such walker");
        Refusal.noWalker((p, walker) -> p.servedBy(walker));
        Check.equal("there is a walker 5", 4, Scene.FULL.make().servedBy(5));
    }

    private static void favouriteAsTheTickLeftIt() {
        Check.sentence("19: Returns the favourite of a walker, as the last tick left it.");
        CellPlanner planner = Lands.twoCells();
        planner.patience(10);
        planner.move(0, 20, 0);
        Check.equal("not before a tick", NONE, planner.favourite(0));
        planner.tick(1);
        Check.equal("but after it", 1, planner.favourite(0));
        planner.move(0, -20, 0);
        Check.equal("a move leaves it", 1, planner.favourite(0));
        planner.margin(1000);
        Check.equal("and a greater margin", 1, planner.favourite(0));
        planner.patience(1);
        Check.equal("and a smaller patience", 1, planner.favourite(0));
        planner.bound(10000);
        Check.equal("and a greater bound", 1, planner.favourite(0));
        planner.tune(1, 0);
        Check.equal("and another channel", 1, planner.favourite(0));
        planner.cell(20, 0, 2, 40);
        Check.equal("and another cell", 1, planner.favourite(0));
        planner.tick(1);
        Check.equal("only a tick does not", NONE, planner.favourite(0));
    }

    private static void favouriteNone() {
        Check.sentence("19: Returns the number of the cell; NONE if there is none.");
        CellPlanner planner = Lands.twoCells();
        Check.equal("the own cell is best", NONE, planner.favourite(0));
        planner.move(0, 20, 0);
        planner.tick(2);
        Check.equal("handed over", NONE, planner.favourite(0));
        planner.move(0, -20, 0);
        planner.tick(1);
        Check.equal("of the number 0", 0, planner.favourite(0));
        planner.bound(10000);
        planner.tick(1);
        Check.equal("lost", NONE, planner.favourite(0));
        Check.equal("lost, so served by none", NONE, planner.servedBy(0));
    }

    private static void favouriteNoSuchWalker() {
        Check.sentence("19: Throws IndexOutOfBoundsException if there is no such walker");
        Refusal.noWalker((p, walker) -> p.favourite(walker));
        Check.equal("there is a walker 5", NONE, Scene.FULL.make().favourite(5));
    }

    private static void heldForWithoutFavourite() {
        Check.sentence("20: Returns the ticks; 0 without a favourite.");
        CellPlanner planner = new CellPlanner();
        planner.walker(0, 0, 1);
        Check.equal("newly come", 0, planner.heldFor(0));
        planner.cell(0, 0, 0, 40);
        planner.cell(20, 0, 1, 40);
        planner.tick(5);
        Check.equal("the own cell is best", 0, planner.heldFor(0));
        planner.move(0, 20, 0);
        planner.tick(1);
        Check.equal("a favourite", 1, planner.heldFor(0));
        planner.tick(1);
        Check.equal("handed over", 0, planner.heldFor(0));
        planner.move(0, -20, 0);
        planner.tick(1);
        planner.move(0, 20, 0);
        planner.tick(1);
        Check.equal("a favourite no more", 0, planner.heldFor(0));
        planner.move(0, -20, 0);
        planner.tick(1);
        Check.equal("a favourite again, for a tick", 1, planner.heldFor(0));
        planner.turn(1);
        Check.equal("its cell is off", 0, planner.heldFor(0));
        planner.turn(1);
        planner.tick(1);
        Check.equal("served anew", 0, planner.heldFor(0));
        planner.move(0, 20, 0);
        planner.tick(1);
        planner.bound(10000);
        planner.move(0, 20, 0);
        planner.tick(1);
        Check.equal("lost", 0, planner.heldFor(0));
    }

    private static void heldForLong() {
        Check.sentence("20: Returns for how many ticks the favourite of a walker has been held.");
        CellPlanner planner = Lands.twoCells();
        planner.patience(10);
        planner.move(0, 20, 0);
        planner.tick(9);
        Check.equal("as long as it can be", 9, planner.heldFor(0));
        planner.tick(1);
        Check.equal("handed over", 0, planner.heldFor(0));
        planner.tick(10);
        Check.equal("and no favourite after it", 0, planner.heldFor(0));
    }

    private static void heldForNoSuchWalker() {
        Check.sentence("20: Throws IndexOutOfBoundsException if there is no such walker");
        Refusal.noWalker((p, walker) -> p.heldFor(walker));
        Check.equal("there is a walker 5", 0, Scene.FULL.make().heldFor(5));
    }

    private static void handovers() {
        Check.sentence("21: Returns how many handovers there were in all.");
        CellPlanner planner = Lands.twoCells();
        Check.equal("none at first", 0, planner.handovers());
        planner.walker(0, 0, 1);
        planner.tick(1);
        for (int crossing = 1; crossing <= 10; crossing++) {
            Lands.crossAtOnce(planner, crossing % 2 == 0 ? -20 : 20);
            Check.equal("of walker 0", crossing, planner.handovers());
        }
        planner.move(1, 20, 0);
        planner.tick(1);
        Check.equal("of walker 1, too", 11, planner.handovers());
        planner.turn(0);
        planner.turn(1);
        Check.equal("off is none", 11, planner.handovers());
        planner.turn(1);
        planner.tick(1);
        Check.equal("served anew is none", 11, planner.handovers());
    }

    private static void rings() {
        Check.sentence("22: Returns how many of them rang.");
        CellPlanner planner = Lands.twoCells();
        Check.equal("none at first", 0, planner.rings());
        planner.walker(0, 0, 1);
        planner.tick(1);
        Lands.crossAtOnce(planner, 20);
        Check.equal("the first does not", 0, planner.rings());
        planner.move(1, 20, 0);
        planner.tick(1);
        Check.equal("nor the first of another walker", 0, planner.rings());
        Lands.crossAtOnce(planner, -20);
        Check.equal("back", 1, planner.rings());
        planner.move(1, -20, 0);
        planner.tick(1);
        Check.equal("back, the other one", 2, planner.rings());
        Check.equal("of all", 4, planner.handovers());
    }

    private static void losses() {
        Check.sentence("23: Returns how many losses there were in all.");
        CellPlanner planner = new CellPlanner();
        planner.cell(0, 0, 0, 40);
        for (int walker = 0; walker < 6; walker++) {
            planner.walker(0, 0, 1);
        }
        planner.bound(10000);
        planner.tick(1);
        Check.equal("none at first", 0, planner.losses());
        for (int walker = 0; walker < 6; walker++) {
            planner.move(walker, 3, 0);
        }
        Check.equal("none before a tick", 0, planner.losses());
        planner.tick(1);
        Check.equal("six in one tick", 6, planner.losses());
        planner.tick(20);
        Check.equal("only once each", 6, planner.losses());
        planner.move(5, -3, 0);
        planner.tick(1);
        Check.equal("served again", 31, planner.unserved());
        planner.move(5, 3, 0);
        planner.tick(1);
        Check.equal("lost again", 7, planner.losses());
    }

    private static void unservedEmptyAndFull() {
        Check.sentence("24: Returns the walkers who are served by none, as a set.");
        CellPlanner planner = new CellPlanner();
        Check.equal("nobody there", 0, planner.unserved());
        for (int walkers = 1; walkers <= 6; walkers++) {
            planner.walker(0, 0, 1);
            Check.equal("all " + walkers, (1 << walkers) - 1, planner.unserved());
        }
        planner.cell(0, 0, 0, 40);
        Check.equal("all, before a tick", 63, planner.unserved());
        planner.tick(1);
        Check.equal("nobody", 0, planner.unserved());
        planner.turn(0);
        Check.equal("all again", 63, planner.unserved());
    }

    private static void unservedEachAlone() {
        Check.sentence("24: Returns the set, bit k for the walker k.");
        for (int far = 0; far < 6; far++) {
            CellPlanner planner = new CellPlanner();
            planner.cell(0, 0, 0, 40);
            for (int walker = 0; walker < 6; walker++) {
                planner.walker(walker == far ? 63 : 0, 0, 1);
            }
            planner.tick(1);
            Check.equal("walker " + far, 1 << far, planner.unserved());
        }
    }
}
