/** The boundary cases of 'Terms' about favourites, handovers, rings and who is served by none. */
public final class HandoverBoundaryTest {
    private static final int NONE = CellPlanner.NONE;

    public static void main(String[] args) {
        Check.all(
                HandoverBoundaryTest::favouriteIsAnotherCell,
                HandoverBoundaryTest::favouriteIsOn,
                HandoverBoundaryTest::favouriteHasRoom,
                HandoverBoundaryTest::favouriteIsTheBest,
                HandoverBoundaryTest::favouriteOfSeveral,
                HandoverBoundaryTest::favouriteAtLeastTheMargin,
                HandoverBoundaryTest::heldOneTickLonger,
                HandoverBoundaryTest::heldForOneTick,
                HandoverBoundaryTest::heldAsLongAsThePatience,
                HandoverBoundaryTest::handedOverHasNone,
                HandoverBoundaryTest::soughtOnlyIfNoneAtTheBeginning,
                HandoverBoundaryTest::soughtIsOn,
                HandoverBoundaryTest::soughtHasRoom,
                HandoverBoundaryTest::soughtAtLeastTheBound,
                HandoverBoundaryTest::soughtIsTheBest,
                HandoverBoundaryTest::soughtOfSeveral,
                HandoverBoundaryTest::soughtIfThereIsOne,
                HandoverBoundaryTest::withoutCellNoFavourite,
                HandoverBoundaryTest::ringsByTheCellBefore,
                HandoverBoundaryTest::ringsNotByTheFirst,
                HandoverBoundaryTest::ringsAtMostFiveTicksAgo,
                HandoverBoundaryTest::ringsByTheTimeOfTheLast,
                HandoverBoundaryTest::ringsAfterPatience,
                HandoverBoundaryTest::ringsNotAfterALoss,
                HandoverBoundaryTest::ringsAfterTurningOff,
                HandoverBoundaryTest::rulesAtFirst);
        Check.end("HandoverBoundaryTest");
    }

    private static void favouriteIsAnotherCell() {
        Check.sentence("A walker who is served otherwise has a favourite if there is one: of the other cells");
        CellPlanner alone = Lands.cellsAt(40, 0);
        alone.walker(0, 0, 1);
        alone.margin(0);
        alone.patience(1);
        Check.equal("no handover to its own cell", 0, alone.tick(20));
        Check.equal("which is no favourite", NONE, alone.favourite(0));
        CellPlanner last = Lands.cellsAt(40, 0, 20, 40);
        last.walker(20, 0, 1);
        last.margin(0);
        last.tick(5);
        Check.equal("nor with others that are worse", NONE, last.favourite(0));
    }

    private static void favouriteIsOn() {
        Check.sentence("of the other cells that are on");
        CellPlanner planner = Lands.cellsAt(40, 0, 20, 22);
        planner.walker(0, 0, 1);
        planner.patience(10);
        planner.tick(1);
        planner.move(0, 20, 0);
        planner.turn(1);
        planner.tick(1);
        Check.equal("the best is off, so the other one", 2, planner.favourite(0));
        planner.turn(2);
        planner.tick(1);
        Check.equal("both are off", NONE, planner.favourite(0));
        planner.turn(1);
        planner.tick(1);
        Check.equal("the best is on again", 1, planner.favourite(0));
    }

    private static void favouriteHasRoom() {
        Check.sentence("of the other cells that are on and have room for the walker");
        CellPlanner planner = new CellPlanner();
        planner.cell(0, 0, 0, 40);
        planner.cell(20, 0, 1, 9);
        planner.cell(22, 0, 2, 10);
        planner.walker(0, 0, 10);
        planner.patience(10);
        planner.tick(1);
        planner.move(0, 20, 0);
        planner.tick(1);
        Check.equal("the best has too little, so the other one", 2, planner.favourite(0));
        planner.walker(22, 0, 1);
        planner.tick(2);
        Check.equal("which has too little now, too", 2, planner.servedBy(1));
        Check.equal("so none", NONE, planner.favourite(0));
    }

    private static void favouriteIsTheBest() {
        Check.sentence("the one with the greatest quality");
        CellPlanner planner = Lands.cellsAt(40, 0, 24, 22);
        planner.walker(0, 0, 1);
        planner.patience(10);
        planner.tick(1);
        planner.move(0, 22, 0);
        planner.tick(1);
        Check.equal("of the higher number", 2, planner.favourite(0));
        planner.move(0, 2, 0);
        planner.tick(1);
        Check.equal("of the lower number", 1, planner.favourite(0));
        planner.move(0, -1, 0);
        planner.tick(1);
        Check.equal("the same quality", 1, planner.favourite(0));
    }

    private static void favouriteOfSeveral() {
        Check.sentence("of several the one with the lowest number");
        for (int served = 0; served < 5; served++) {
            CellPlanner planner = new CellPlanner();
            for (int cell = 0; cell < 5; cell++) {
                planner.cell(cell == served ? 0 : 20, 0, 0, 40);
            }
            planner.walker(0, 0, 1);
            planner.tick(1);
            Check.equal("served by the one apart", served, planner.servedBy(0));
            planner.move(0, 20, 0);
            planner.tick(1);
            Check.equal("the lowest of the others", served == 0 ? 1 : 0, planner.favourite(0));
        }
    }

    private static void favouriteAtLeastTheMargin() {
        Check.sentence("if its quality is at least that of the serving cell plus the margin");
        Check.equal("150 to 130: better by 20", 1, favouriteBetween(62, 32, 130, 150));
        Check.equal("150 to 140: better by 10", NONE, favouriteBetween(61, 31, 140, 150));
        Check.equal("140 to 140: not better", NONE, favouriteBetween(62, 31, 140, 140));
        Check.equal("1320 to 17770: far better", 1, favouriteBetween(10, 9, 1320, 17770));
    }

    /** The favourite of a walker at walkerX with the first margin; cells stand at 0 and cellX. */
    private static int favouriteBetween(int cellX, int walkerX, int own, int other) {
        CellPlanner planner = Lands.cellsAt(40, 0, cellX);
        planner.walker(0, 0, 1);
        planner.tick(1);
        planner.move(0, walkerX, 0);
        Check.equal("quality of its cell", own, planner.quality(0, 0));
        Check.equal("quality of the other cell", other, planner.quality(1, 0));
        planner.tick(1);
        return planner.favourite(0);
    }

    private static void heldOneTickLonger() {
        Check.sentence("If it is the favourite that the walker had at the last tick, it is held one"
                + " tick longer than then");
        CellPlanner planner = Lands.twoCells();
        planner.patience(10);
        planner.move(0, 20, 0);
        for (int held = 1; held <= 9; held++) {
            planner.tick(1);
            Check.equal("tick by tick", held, planner.heldFor(0));
            planner.move(0, held % 2 == 0 ? 1 : -1, 0);
        }
        CellPlanner together = Lands.twoCells();
        together.patience(10);
        together.move(0, 20, 0);
        together.tick(9);
        Check.equal("in one call", 9, together.heldFor(0));
    }

    private static void heldForOneTick() {
        Check.sentence("otherwise it is held for one tick");
        CellPlanner planner = Lands.cellsAt(40, 0, 20, 24);
        planner.walker(0, 0, 1);
        planner.patience(10);
        planner.tick(1);
        planner.move(0, 20, 0);
        planner.tick(3);
        Check.equal("a favourite", 3, planner.heldFor(0));
        planner.move(0, 4, 0);
        planner.tick(1);
        Check.equal("another one", 2, planner.favourite(0));
        Check.equal("from the beginning", 1, planner.heldFor(0));
        planner.move(0, -4, 0);
        planner.tick(1);
        Check.equal("back to the first one", 1, planner.favourite(0));
        Check.equal("from the beginning, too", 1, planner.heldFor(0));
        planner.tick(1);
        planner.move(0, -20, 0);
        planner.tick(1);
        planner.move(0, 20, 0);
        planner.tick(1);
        Check.equal("with a tick without one between", 1, planner.heldFor(0));
    }

    private static void heldAsLongAsThePatience() {
        Check.sentence("If it is held for as many ticks as the patience, or more, the walker is handed over");
        for (int patience = 1; patience <= 10; patience++) {
            CellPlanner planner = Lands.twoCells();
            planner.patience(patience);
            planner.move(0, 20, 0);
            int early = patience > 1 ? planner.tick(patience - 1) : 0;
            Check.equal("one tick less than " + patience, 0, early);
            Check.equal("served as before", 0, planner.servedBy(0));
            Check.equal("as many as " + patience, 1, planner.tick(1));
            Check.equal("served by the favourite", 1, planner.servedBy(0));
        }
        CellPlanner planner = Lands.twoCells();
        planner.patience(10);
        planner.move(0, 20, 0);
        planner.tick(8);
        planner.patience(2);
        Check.equal("more", 1, planner.tick(1));
    }

    private static void handedOverHasNone() {
        Check.sentence("it is served by the favourite, and has none then");
        CellPlanner planner = Lands.twoCells();
        planner.move(0, 20, 0);
        planner.tick(2);
        Check.equal("served", 1, planner.servedBy(0));
        Check.equal("none", NONE, planner.favourite(0));
        Check.equal("not held", 0, planner.heldFor(0));
        planner.move(0, -20, 0);
        planner.tick(1);
        Check.equal("the next one is held from the beginning", 1, planner.heldFor(0));
        Check.equal("and no handover yet", 1, planner.handovers());
    }

    private static void soughtOnlyIfNoneAtTheBeginning() {
        Check.sentence("A walker who is served by none at the beginning of the tick is served");
        CellPlanner planner = Lands.cellsAt(40, 0);
        planner.walker(0, 0, 1);
        planner.tick(1);
        planner.bound(10000);
        planner.move(0, 2, 0);
        planner.tick(1);
        Check.equal("one who keeps its cell", 0, planner.servedBy(0));
        planner.cell(2, 0, 1, 40);
        planner.move(0, 1, 0);
        Check.equal("another cell is good enough", 17770, planner.quality(1, 0));
        planner.tick(1);
        Check.equal("one who loses it in the tick is not", NONE, planner.servedBy(0));
        planner.tick(1);
        Check.equal("but in the next", 1, planner.servedBy(0));
    }

    private static void soughtIsOn() {
        Check.sentence("by the cell with the greatest quality of those that are on");
        CellPlanner planner = Lands.cellsAt(40, 0, 2, 4);
        planner.walker(0, 0, 1);
        planner.turn(0);
        planner.tick(1);
        Check.equal("the best of those", 1, planner.servedBy(0));
        planner.turn(1);
        planner.tick(1);
        Check.equal("the last of those", 2, planner.servedBy(0));
        planner.turn(2);
        planner.tick(1);
        Check.equal("none of them", NONE, planner.servedBy(0));
    }

    private static void soughtHasRoom() {
        Check.sentence("have room for the walker");
        CellPlanner planner = new CellPlanner();
        planner.cell(0, 0, 0, 5);
        planner.cell(2, 0, 1, 4);
        planner.walker(0, 0, 5);
        planner.walker(0, 0, 1);
        planner.walker(0, 0, 4);
        planner.walker(0, 0, 3);
        planner.tick(1);
        Check.equal("just enough in the best", 0, planner.servedBy(0));
        Check.equal("full, so the next", 1, planner.servedBy(1));
        Check.equal("one too few in both", NONE, planner.servedBy(2));
        Check.equal("just enough in the next", 1, planner.servedBy(3));
    }

    private static void soughtAtLeastTheBound() {
        Check.sentence("and have a quality of at least the bound");
        CellPlanner planner = Lands.cellsAt(40, 0, 63);
        planner.walker(24, 0, 1);
        Check.equal("quality", 230, planner.quality(0, 0));
        planner.bound(231);
        planner.tick(1);
        Check.equal("one below", NONE, planner.servedBy(0));
        planner.bound(230);
        planner.tick(1);
        Check.equal("at it", 0, planner.servedBy(0));
    }

    private static void soughtIsTheBest() {
        Check.sentence("by the cell with the greatest quality: with the disturbances");
        CellPlanner planner = new CellPlanner();
        planner.cell(10, 0, 0, 1);
        planner.cell(9, 0, 0, 40);
        planner.cell(14, 0, 1, 40);
        planner.walker(10, 0, 1);
        planner.tick(1);
        Check.equal("cell 0 is full", 100, planner.use(0));
        planner.walker(10, 0, 1);
        planner.tick(1);
        Check.equal("and disturbs the nearest one with room", 2, planner.servedBy(1));
        planner.turn(0);
        planner.turn(2);
        planner.turn(2);
        planner.tick(1);
        Check.equal("but not when it is off", 1, planner.servedBy(1));
    }

    private static void soughtOfSeveral() {
        Check.sentence("of several by the one with the lowest number");
        for (int lowest = 0; lowest < 5; lowest++) {
            CellPlanner planner = Lands.cellsAt(40, 9, 9, 9, 9, 9);
            planner.walker(0, 0, 1);
            for (int cell = 0; cell < lowest; cell++) {
                planner.turn(cell);
            }
            planner.tick(1);
            Check.equal("the lowest that is on", lowest, planner.servedBy(0));
        }
    }

    private static void soughtIfThereIsOne() {
        Check.sentence("of several by the one with the lowest number, if there is one");
        CellPlanner planner = new CellPlanner();
        planner.walker(0, 0, 10);
        planner.tick(20);
        Check.equal("no cell at all", NONE, planner.servedBy(0));
        planner.cell(0, 0, 0, 9);
        planner.cell(63, 63, 0, 40);
        planner.cell(0, 0, 0, 40);
        planner.turn(2);
        planner.tick(20);
        Check.equal("no room, too far off, or off", NONE, planner.servedBy(0));
        Check.equal("that is no loss", 0, planner.losses());
    }

    private static void withoutCellNoFavourite() {
        Check.sentence("A walker without a serving cell has no favourite, also when its cell was turned off.");
        CellPlanner planner = Lands.twoCells();
        planner.patience(10);
        planner.move(0, 20, 0);
        planner.tick(4);
        Check.equal("it has one", 1, planner.favourite(0));
        planner.turn(0);
        Check.equal("turned off: at once none", NONE, planner.favourite(0));
        Check.equal("turned off: not held", 0, planner.heldFor(0));
        planner.turn(0);
        Check.equal("on again: none", NONE, planner.favourite(0));
        planner.turn(1);
        planner.bound(1);
        planner.tick(1);
        Check.equal("served by cell 0 anew", 0, planner.servedBy(0));
        planner.turn(1);
        planner.tick(1);
        Check.equal("the same favourite", 1, planner.favourite(0));
        Check.equal("but held from the beginning", 1, planner.heldFor(0));
        planner.bound(10000);
        planner.tick(1);
        Check.equal("lost: none", NONE, planner.favourite(0));
        Check.equal("lost: not held", 0, planner.heldFor(0));
    }

    private static void ringsByTheCellBefore() {
        Check.sentence("A handover rings if the walker is handed over to the cell that had served it"
                + " until its last handover");
        CellPlanner planner = Lands.cellsAt(40, 0, 20, 40);
        planner.walker(0, 0, 1);
        planner.bound(1);
        planner.tick(1);
        Lands.crossAtOnce(planner, 20);
        Check.equal("0 to 1: the first one does not", 0, planner.rings());
        Lands.crossAtOnce(planner, 20);
        Check.equal("1 to 2: to another one", 0, planner.rings());
        Lands.crossAtOnce(planner, -40);
        Check.equal("2 to 0: to the last but one", 0, planner.rings());
        Lands.crossAtOnce(planner, 40);
        Check.equal("0 to 2: back", 1, planner.rings());
        Lands.crossAtOnce(planner, -40);
        Check.equal("2 to 0: back again", 2, planner.rings());
        Lands.crossAtOnce(planner, 20);
        Check.equal("0 to 1: to another one", 2, planner.rings());
        Check.equal("of all", 6, planner.handovers());
    }

    private static void ringsNotByTheFirst() {
        Check.sentence("A handover rings if the walker is handed over to the cell that had served it"
                + " until its last handover: if there was one");
        CellPlanner planner = Lands.cellsAt(40, 0, 20);
        for (int walker = 0; walker < 6; walker++) {
            planner.walker(20, 0, 1);
        }
        planner.tick(1);
        planner.patience(1);
        for (int walker = 0; walker < 6; walker++) {
            planner.move(walker, -20, 0);
        }
        Check.equal("all to cell 0 in the second tick", 6, planner.tick(1));
        Check.equal("which had served none of them", 0, planner.rings());
    }

    private static void ringsAtMostFiveTicksAgo() {
        Check.sentence("and that handover was at most 5 ticks ago");
        for (int ago = 1; ago <= 8; ago++) {
            CellPlanner planner = Lands.twoCells();
            planner.tick(20);
            Lands.crossAtOnce(planner, 20);
            if (ago > 1) {
                planner.tick(ago - 1);
            }
            Lands.crossAtOnce(planner, -20);
            Check.equal("a handover", 2, planner.handovers());
            Check.equal("so many ticks ago: " + ago, ago <= 5 ? 1 : 0, planner.rings());
        }
    }

    private static void ringsByTheTimeOfTheLast() {
        Check.sentence("and that handover was at most 5 ticks ago: the last one, not one before");
        CellPlanner planner = Lands.twoCells();
        Lands.crossAtOnce(planner, 20);
        planner.tick(5);
        Lands.crossAtOnce(planner, -20);
        Check.equal("6 ticks ago", 0, planner.rings());
        planner.tick(4);
        Lands.crossAtOnce(planner, 20);
        Check.equal("5 ticks ago, and 11 the one before", 1, planner.rings());
        planner.tick(5);
        Lands.crossAtOnce(planner, -20);
        Check.equal("6 ticks ago", 1, planner.rings());
        Lands.crossAtOnce(planner, 20);
        Check.equal("1 tick ago", 2, planner.rings());
    }

    private static void ringsAfterPatience() {
        Check.sentence("and that handover was at most 5 ticks ago: held ones");
        for (int patience = 1; patience <= 8; patience++) {
            CellPlanner planner = Lands.twoCells();
            planner.patience(patience);
            planner.move(0, 20, 0);
            planner.tick(patience);
            planner.move(0, -20, 0);
            planner.tick(patience);
            Check.equal("handovers", 2, planner.handovers());
            Check.equal("with a patience of " + patience, patience <= 5 ? 1 : 0, planner.rings());
        }
    }

    private static void ringsNotAfterALoss() {
        Check.sentence("and the walker has had no loss since");
        CellPlanner planner = Lands.twoCells();
        planner.walker(20, 0, 1);
        planner.tick(1);
        Lands.crossAtOnce(planner, 20);
        planner.bound(10000);
        planner.move(0, 5, 0);
        planner.tick(1);
        Check.equal("a loss", 1, planner.losses());
        planner.bound(100);
        planner.move(0, -5, 0);
        planner.tick(1);
        Check.equal("served by cell 1 again", 1, planner.servedBy(0));
        Lands.crossAtOnce(planner, -20);
        Check.equal("back, 3 ticks after the handover", 2, planner.handovers());
        Check.equal("but not without a loss", 0, planner.rings());
        planner.bound(10000);
        planner.move(1, 3, 0);
        planner.tick(1);
        Check.equal("a loss of another walker", 2, planner.losses());
        planner.bound(100);
        Lands.crossAtOnce(planner, 20);
        Check.equal("is none of this one", 1, planner.rings());
    }

    private static void ringsAfterTurningOff() {
        Check.sentence("and the walker has had no loss since: a cell turned off is none");
        CellPlanner planner = Lands.twoCells();
        Lands.crossAtOnce(planner, 20);
        planner.turn(1);
        planner.turn(1);
        planner.tick(1);
        Check.equal("served by cell 1 anew", 1, planner.servedBy(0));
        Lands.crossAtOnce(planner, -20);
        Check.equal("back", 2, planner.handovers());
        Check.equal("rings", 1, planner.rings());
    }

    private static void rulesAtFirst() {
        Check.sentence("The margin is 20 at first, the patience 2 and the bound 100.");
        CellPlanner planner = new CellPlanner();
        Check.equal("margin", 20, planner.margin(20));
        Check.equal("patience", 2, planner.patience(2));
        Check.equal("bound", 100, planner.bound(100));
        CellPlanner used = Lands.cellsAt(40, 0, 20);
        used.walker(0, 0, 1);
        used.tick(1);
        used.move(0, 20, 0);
        Check.equal("one tick is too few", 0, used.tick(1));
        Check.equal("two are enough", 1, used.tick(1));
        Check.equal("a quality of 100", 0, servedAt(38));
        Check.equal("a quality of 90", NONE, servedAt(39));
    }

    private static int servedAt(int distance) {
        CellPlanner planner = Lands.cellsAt(40, 0);
        planner.walker(distance, 0, 1);
        planner.tick(1);
        return planner.servedBy(0);
    }
}
