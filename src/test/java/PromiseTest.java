/** A method for each promise: ordinary inputs, the edges that the document names, wrong inputs. */
public final class PromiseTest {
    private static final int NONE = CellPlanner.NONE;
    private static final int LOWEST = Integer.MIN_VALUE;
    private static final int HIGHEST = Integer.MAX_VALUE;

    public static void main(String[] args) {
        Check.all(
                PromiseTest::promise1NewObject,
                PromiseTest::promise2Cell,
                PromiseTest::promise3Turn,
                PromiseTest::promise3TurnAndFavourites,
                PromiseTest::promise4Tune,
                PromiseTest::promise5Walker,
                PromiseTest::promise6Move,
                PromiseTest::promise7Margin,
                PromiseTest::promise8Patience,
                PromiseTest::promise9Bound,
                PromiseTest::promise10Tick,
                PromiseTest::promise10Seeking,
                PromiseTest::promise10OrderAndRoom,
                PromiseTest::promise10UsesOfTheBeginning,
                PromiseTest::promise11Ticks,
                PromiseTest::promise12Cells,
                PromiseTest::promise13Walkers,
                PromiseTest::promise14Signal,
                PromiseTest::promise15Quality,
                PromiseTest::promise16Load,
                PromiseTest::promise17Use,
                PromiseTest::promise18ServedBy,
                PromiseTest::promise19Favourite,
                PromiseTest::promise20HeldFor,
                PromiseTest::promise21Handovers,
                PromiseTest::promise22Rings,
                PromiseTest::promise22RingsForgotten,
                PromiseTest::promise23Losses,
                PromiseTest::promise24Unserved,
                PromiseTest::promise25MostServed,
                PromiseTest::promise26MostDemand,
                PromiseTest::promise27BestCell,
                PromiseTest::promise27BestCellOfSeveral,
                PromiseTest::promise27BestCellByQuality,
                PromiseTest::promise27FullLand);
        Check.end("PromiseTest");
    }

    private static void promise1NewObject() {
        CellPlanner planner = new CellPlanner();
        Check.equal("1: NONE", -1, NONE);
        Check.equal("1: cells", 0, planner.cells());
        Check.equal("1: walkers", 0, planner.walkers());
        Check.equal("1: ticks", 0, planner.ticks());
        Check.equal("1: handovers", 0, planner.handovers());
        Check.equal("1: rings", 0, planner.rings());
        Check.equal("1: losses", 0, planner.losses());
        Check.equal("1: unserved", 0, planner.unserved());
        Check.equal("1: mostServed", 0, planner.mostServed());
        Check.equal("1: mostDemand", 0, planner.mostDemand());
        Check.equal("1: tick", 0, planner.tick(20));
        Check.equal("1: margin", 20, planner.margin(0));
        Check.equal("1: patience", 2, planner.patience(1));
        Check.equal("1: bound", 100, planner.bound(1));
        Check.equal("1: another object is another land", 0, new CellPlanner().ticks());
    }

    private static void promise2Cell() {
        CellPlanner planner = new CellPlanner();
        int[][] wrong = {
            {-1, 0, 0, 1}, {64, 0, 0, 1}, {0, -1, 0, 1}, {0, 64, 0, 1}, {0, 0, -1, 1}, {0, 0, 3, 1},
            {0, 0, 0, 0}, {0, 0, 0, 41}, {LOWEST, 0, 0, 1}, {0, HIGHEST, 0, 1}, {0, 0, HIGHEST, 1},
            {0, 0, 0, LOWEST}};
        for (int[] a : wrong) {
            Check.badArgument("2: cell out of range", () -> planner.cell(a[0], a[1], a[2], a[3]));
        }
        Check.equal("2: a call that throws builds none", 0, planner.cells());
        Check.equal("2: first cell", 0, planner.cell(0, 0, 0, 1));
        Check.equal("2: second cell", 1, planner.cell(63, 63, 2, 40));
        Check.equal("2: third cell", 2, planner.cell(0, 63, 1, 20));
        Check.equal("2: fourth cell", 3, planner.cell(0, 0, 0, 1));
        Check.equal("2: fifth cell", 4, planner.cell(1, 0, 0, 1));
        Check.badState("2: sixth cell", () -> planner.cell(0, 0, 0, 1));
        for (int[] a : wrong) {
            Check.badArgument("2: range before number", () -> planner.cell(a[0], a[1], a[2], a[3]));
        }
        Check.equal("2: five cells stay", 5, planner.cells());
        for (int cell = 0; cell < 5; cell++) {
            Check.holds("2: a new cell is on", !planner.turn(cell));
        }
        Check.equal("2: channel is kept", 2, planner.tune(1, 0));
    }

    private static void promise3Turn() {
        CellPlanner planner = Lands.twoCells();
        planner.walker(20, 0, 5);
        planner.tick(1);
        Check.badIndex("3: no cell -1", () -> planner.turn(-1));
        Check.badIndex("3: no cell 2", () -> planner.turn(2));
        Check.badIndex("3: no cell far off", () -> planner.turn(LOWEST));
        Check.equal("3: served before", 0, planner.servedBy(0));
        Check.holds("3: off", !planner.turn(0));
        Check.equal("3: its walker is served by none", NONE, planner.servedBy(0));
        Check.equal("3: another one stays served", 1, planner.servedBy(1));
        Check.equal("3: no loss", 0, planner.losses());
        Check.holds("3: on", planner.turn(0));
        Check.equal("3: nobody comes back by itself", NONE, planner.servedBy(0));
        planner.turn(0);
        planner.bound(1);
        planner.tick(1);
        Check.equal("3: a cell that is off takes nobody", 1, planner.servedBy(0));
    }

    private static void promise3TurnAndFavourites() {
        CellPlanner planner = Lands.twoCells();
        planner.patience(3);
        planner.move(0, 20, 0);
        planner.tick(1);
        Check.equal("3: favourite", 1, planner.favourite(0));
        planner.turn(1);
        Check.equal("3: a favourite that is off stays until the tick", 1, planner.favourite(0));
        Check.equal("3: and is held as long", 1, planner.heldFor(0));
        planner.turn(1);
        planner.tick(1);
        Check.equal("3: on again before the tick it is held on", 2, planner.heldFor(0));
        planner.turn(1);
        planner.tick(1);
        Check.equal("3: off in the tick it is favourite no more", NONE, planner.favourite(0));
        Check.equal("3: and held no more", 0, planner.heldFor(0));
        planner.turn(1);
        planner.tick(2);
        Check.equal("3: it starts anew", 2, planner.heldFor(0));
        planner.turn(0);
        Check.equal("3: without a cell no favourite", NONE, planner.favourite(0));
        Check.equal("3: nor held", 0, planner.heldFor(0));
    }

    private static void promise4Tune() {
        CellPlanner planner = new CellPlanner();
        planner.cell(0, 0, 2, 10);
        planner.cell(4, 0, 1, 10);
        planner.walker(0, 0, 5);
        planner.tick(1);
        Check.badIndex("4: no cell -1", () -> planner.tune(-1, 0));
        Check.badIndex("4: no cell 2", () -> planner.tune(2, 0));
        Check.badIndex("4: the cell before the channel", () -> planner.tune(2, 3));
        Check.badArgument("4: channel -1", () -> planner.tune(0, -1));
        Check.badArgument("4: channel 3", () -> planner.tune(0, 3));
        Check.equal("4: undisturbed", 4440, planner.quality(1, 0));
        Check.equal("4: channel before", 2, planner.tune(0, 1));
        Check.equal("4: disturbed by 4000 times 50 in 100", 22, planner.quality(1, 0));
        Check.equal("4: channel before", 1, planner.tune(0, 0));
        Check.equal("4: undisturbed again", 4440, planner.quality(1, 0));
        Check.equal("4: the same channel", 0, planner.tune(0, 0));
        Check.equal("4: it serves on", 0, planner.servedBy(0));
    }

    private static void promise5Walker() {
        CellPlanner planner = new CellPlanner();
        int[][] wrong = {
            {-1, 0, 1}, {64, 0, 1}, {0, -1, 1}, {0, 64, 1}, {0, 0, 0}, {0, 0, 11}, {LOWEST, 0, 1},
            {0, HIGHEST, 1}, {0, 0, LOWEST}};
        for (int[] a : wrong) {
            Check.badArgument("5: walker out of range", () -> planner.walker(a[0], a[1], a[2]));
        }
        Check.equal("5: a call that throws brings none", 0, planner.walkers());
        for (int walker = 0; walker < 6; walker++) {
            int end = walker % 2 * 63;
            Check.equal("5: its number", walker, planner.walker(end, 63 - end, 1 + walker % 2 * 9));
            Check.equal("5: served by none", NONE, planner.servedBy(walker));
            Check.equal("5: no favourite", NONE, planner.favourite(walker));
            Check.equal("5: not held", 0, planner.heldFor(walker));
        }
        Check.badState("5: seventh walker", () -> planner.walker(0, 0, 1));
        for (int[] a : wrong) {
            Check.badArgument("5: range before number", () -> planner.walker(a[0], a[1], a[2]));
        }
        Check.equal("5: six walkers stay", 6, planner.walkers());
    }

    private static void promise6Move() {
        CellPlanner planner = new CellPlanner();
        planner.cell(0, 0, 0, 10);
        planner.walker(3, 5, 1);
        Check.badIndex("6: no walker -1", () -> planner.move(-1, 0, 0));
        Check.badIndex("6: no walker 1", () -> planner.move(1, 0, 0));
        Check.badIndex("6: the walker before the place", () -> planner.move(1, 100, 0));
        int[][] wrong = {
            {-4, 0}, {61, 0}, {0, -6}, {0, 59}, {HIGHEST, 0}, {LOWEST, 0}, {0, HIGHEST}, {0, LOWEST},
            {1, 59}, {61, 1}, {HIGHEST, HIGHEST}};
        for (int[] step : wrong) {
            Check.badArgument("6: out of the land", () -> planner.move(0, step[0], step[1]));
            Check.equal("6: it stays where it was", 160, planner.signal(0, 0));
        }
        planner.move(0, -3, -5);
        Check.equal("6: to (0,0)", 4000, planner.signal(0, 0));
        planner.move(0, 0, 2);
        Check.equal("6: to (0,2)", 1000, planner.signal(0, 0));
        planner.move(0, 63, 61);
        Check.equal("6: to (63,63)", 0, planner.signal(0, 0));
        planner.move(0, -63, -60);
        Check.equal("6: to (0,3)", 640, planner.signal(0, 0));
        planner.move(0, 0, 0);
        Check.equal("6: nowhere", 640, planner.signal(0, 0));
    }

    private static void promise7Margin() {
        CellPlanner planner = new CellPlanner();
        Check.badArgument("7: margin -1", () -> planner.margin(-1));
        Check.badArgument("7: margin 1001", () -> planner.margin(1001));
        Check.equal("7: at first", 20, planner.margin(1000));
        Check.equal("7: before", 1000, planner.margin(0));
        Check.equal("7: before", 0, planner.margin(5));
        Check.equal("7: margin 170 reached", 1, favouriteBetween(170));
        Check.equal("7: margin 171 not reached", NONE, favouriteBetween(171));
    }

    /** The favourite of a walker whose cell has the quality 940, the other one 1110. */
    private static int favouriteBetween(int margin) {
        CellPlanner planner = new CellPlanner();
        planner.cell(0, 0, 0, 40);
        planner.cell(21, 0, 1, 40);
        planner.walker(0, 0, 1);
        planner.tick(1);
        planner.move(0, 11, 0);
        planner.margin(margin);
        planner.tick(1);
        Check.equal("7: quality of its cell", 940, planner.quality(0, 0));
        Check.equal("7: quality of the other cell", 1110, planner.quality(1, 0));
        return planner.favourite(0);
    }

    private static void promise8Patience() {
        CellPlanner planner = Lands.twoCells();
        Check.badArgument("8: patience 0", () -> planner.patience(0));
        Check.badArgument("8: patience 11", () -> planner.patience(11));
        Check.equal("8: at first", 2, planner.patience(10));
        Check.equal("8: before", 10, planner.patience(10));
        planner.move(0, 20, 0);
        Check.equal("8: nine ticks are too few", 0, planner.tick(9));
        Check.equal("8: held for nine", 9, planner.heldFor(0));
        Check.equal("8: a smaller patience", 10, planner.patience(3));
        Check.equal("8: alone hands nobody over", 0, planner.servedBy(0));
        Check.equal("8: but the next tick does", 1, planner.tick(1));
        Check.equal("8: served by the favourite", 1, planner.servedBy(0));
        planner.patience(1);
        planner.move(0, -20, 0);
        Check.equal("8: patience 1 waits for nothing", 1, planner.tick(1));
    }

    private static void promise9Bound() {
        CellPlanner planner = new CellPlanner();
        planner.cell(0, 0, 0, 40);
        planner.walker(0, 10, 1);
        Check.badArgument("9: bound 0", () -> planner.bound(0));
        Check.badArgument("9: bound 10001", () -> planner.bound(10001));
        Check.equal("9: at first", 100, planner.bound(10000));
        Check.equal("9: before", 10000, planner.bound(1));
        Check.equal("9: before", 1, planner.bound(1111));
        Check.equal("9: quality", 1110, planner.quality(0, 0));
        planner.tick(1);
        Check.equal("9: below the bound it takes nobody", NONE, planner.servedBy(0));
        planner.bound(1110);
        planner.tick(1);
        Check.equal("9: at the bound it does", 0, planner.servedBy(0));
        planner.tick(1);
        Check.equal("9: at the bound it keeps", 0, planner.servedBy(0));
        planner.bound(1111);
        planner.tick(1);
        Check.equal("9: below the bound it loses", NONE, planner.servedBy(0));
    }

    private static void promise10Tick() {
        CellPlanner planner = Lands.twoCells();
        Check.badArgument("10: 0 ticks", () -> planner.tick(0));
        Check.badArgument("10: 21 ticks", () -> planner.tick(21));
        Check.badArgument("10: fewer than none", () -> planner.tick(LOWEST));
        Check.equal("10: none passed then", 1, planner.ticks());
        planner.walker(0, 0, 1);
        planner.tick(1);
        planner.move(0, 20, 0);
        planner.move(1, 20, 0);
        Check.equal("10: both are handed over", 2, planner.tick(20));
        Check.equal("10: none of them again", 0, planner.tick(20));
        planner.move(0, -20, 0);
        Check.equal("10: counted anew for each call", 1, planner.tick(2));
        Check.equal("10: all ticks passed", 44, planner.ticks());
    }

    private static void promise10Seeking() {
        CellPlanner planner = new CellPlanner();
        planner.cell(0, 4, 0, 40);
        planner.cell(4, 0, 1, 40);
        planner.cell(2, 0, 2, 3);
        planner.walker(0, 0, 4);
        planner.walker(0, 0, 3);
        planner.walker(0, 0, 1);
        planner.tick(1);
        Check.equal("10: the lowest of the best with room", 0, planner.servedBy(0));
        Check.equal("10: the best has room just enough", 2, planner.servedBy(1));
        Check.equal("10: the best has room no more", 0, planner.servedBy(2));
        planner.margin(0);
        planner.patience(10);
        planner.tick(1);
        Check.equal("10: a favourite needs room too", 1, planner.favourite(0));
        planner.move(0, 2, 0);
        planner.turn(1);
        planner.turn(0);
        planner.tick(1);
        Check.equal("10: no cell is left", NONE, planner.servedBy(0));
    }

    private static void promise10OrderAndRoom() {
        CellPlanner planner = new CellPlanner();
        planner.cell(0, 0, 0, 5);
        planner.walker(0, 0, 5);
        planner.walker(0, 0, 5);
        planner.tick(1);
        Check.equal("10: walker 0 comes first", 0, planner.servedBy(0));
        Check.equal("10: walker 1 finds no room", NONE, planner.servedBy(1));
        planner.move(0, 63, 63);
        planner.tick(1);
        Check.equal("10: walker 0 loses its cell", NONE, planner.servedBy(0));
        Check.equal("10: whose room is there for walker 1 at once", 0, planner.servedBy(1));
        planner.move(1, 63, 63);
        planner.move(0, -63, -63);
        planner.tick(1);
        Check.equal("10: walker 1 loses it", NONE, planner.servedBy(1));
        Check.equal("10: too late for walker 0", NONE, planner.servedBy(0));
        planner.tick(1);
        Check.equal("10: who gets it in the next tick", 0, planner.servedBy(0));
    }

    private static void promise10UsesOfTheBeginning() {
        CellPlanner planner = new CellPlanner();
        planner.cell(0, 0, 0, 10);
        planner.cell(6, 0, 0, 10);
        planner.walker(0, 0, 10);
        planner.walker(2, 0, 5);
        planner.tick(1);
        Check.equal("10: walker 0 fills cell 0", 0, planner.servedBy(0));
        Check.equal("10: which does not disturb yet", 1, planner.servedBy(1));
        Check.equal("10: but will", 43, planner.quality(1, 1));
        Check.equal("10: no loss so far", 0, planner.losses());
        planner.tick(1);
        Check.equal("10: now it does", 1, planner.losses());
        Check.equal("10: served again in a later tick at the earliest", NONE, planner.servedBy(1));
    }

    private static void promise11Ticks() {
        CellPlanner planner = new CellPlanner();
        planner.tick(1);
        Check.equal("11: one", 1, planner.ticks());
        planner.tick(20);
        Check.equal("11: 21", 21, planner.ticks());
        planner.patience(7);
        Check.equal("11: the patience is none of them", 21, planner.ticks());
    }

    private static void promise12Cells() {
        CellPlanner planner = new CellPlanner();
        planner.walker(0, 0, 1);
        Check.equal("12: none", 0, planner.cells());
        planner.cell(0, 0, 0, 1);
        planner.cell(0, 0, 0, 1);
        planner.turn(0);
        Check.equal("12: off ones too", 2, planner.cells());
    }

    private static void promise13Walkers() {
        CellPlanner planner = new CellPlanner();
        planner.cell(0, 0, 0, 1);
        Check.equal("13: none", 0, planner.walkers());
        planner.walker(0, 0, 1);
        planner.walker(0, 0, 1);
        Check.equal("13: two", 2, planner.walkers());
    }

    private static void promise14Signal() {
        CellPlanner planner = new CellPlanner();
        planner.cell(63, 0, 0, 10);
        planner.walker(63, 0, 1);
        Check.badIndex("14: no cell -1", () -> planner.signal(-1, 0));
        Check.badIndex("14: no cell 1", () -> planner.signal(1, 0));
        Check.badIndex("14: no walker -1", () -> planner.signal(0, -1));
        Check.badIndex("14: no walker 1", () -> planner.signal(0, 1));
        Check.equal("14: distance 0", 4000, planner.signal(0, 0));
        planner.move(0, -1, 0);
        Check.equal("14: distance 1", 1777, planner.signal(0, 0));
        planner.move(0, 0, 1);
        Check.equal("14: distance 1 + 1", 1000, planner.signal(0, 0));
        planner.turn(0);
        Check.equal("14: off as well", 1000, planner.signal(0, 0));
        CellPlanner inside = new CellPlanner();
        inside.cell(30, 40, 0, 10);
        inside.walker(33, 38, 1);
        inside.walker(28, 43, 1);
        Check.equal("14: distance 3 + 2", 326, inside.signal(0, 0));
        Check.equal("14: distance 2 + 3", 326, inside.signal(0, 1));
        planner.move(0, -62, 60);
        Check.equal("14: distance 124", 1, planner.signal(0, 0));
        planner.move(0, 0, 1);
        Check.equal("14: distance 125", 0, planner.signal(0, 0));
    }

    private static void promise15Quality() {
        CellPlanner planner = new CellPlanner();
        planner.cell(0, 0, 0, 7);
        planner.cell(4, 0, 0, 3);
        planner.cell(0, 5, 0, 40);
        planner.cell(0, 0, 1, 1);
        planner.walker(0, 0, 1);
        planner.walker(4, 0, 2);
        Check.badIndex("15: no cell -1", () -> planner.quality(-1, 0));
        Check.badIndex("15: no cell 4", () -> planner.quality(4, 0));
        Check.badIndex("15: no walker -1", () -> planner.quality(0, -1));
        Check.badIndex("15: no walker 2", () -> planner.quality(0, 2));
        Check.equal("15: no disturbance without load", 40000, planner.quality(0, 0));
        planner.tick(1);
        // Uses: 14 of cell 0, 66 of cell 1, so 560 and 293 come from them at walker 0.
        Check.equal("15: cell 0 disturbed by cell 1", 1320, planner.quality(0, 0));
        Check.equal("15: cell 1 disturbed by cell 0", 77, planner.quality(1, 0));
        Check.equal("15: cell 2 disturbed by both", 37, planner.quality(2, 0));
        Check.equal("15: another channel", 40000, planner.quality(3, 0));
        planner.turn(2);
        Check.equal("15: of a cell that is off", 37, planner.quality(2, 0));
        planner.turn(1);
        Check.equal("15: a cell that is off disturbs not", 40000, planner.quality(0, 0));
        Check.equal("15: but is disturbed", 77, planner.quality(1, 0));
    }

    private static void promise16Load() {
        CellPlanner planner = Lands.twoCells();
        planner.walker(0, 0, 10);
        planner.walker(20, 0, 3);
        Check.badIndex("16: no cell -1", () -> planner.load(-1));
        Check.badIndex("16: no cell 2", () -> planner.load(2));
        Check.equal("16: one walker", 4, planner.load(0));
        Check.equal("16: nobody", 0, planner.load(1));
        planner.tick(1);
        Check.equal("16: two walkers", 14, planner.load(0));
        Check.equal("16: one walker", 3, planner.load(1));
        planner.turn(0);
        Check.equal("16: off", 0, planner.load(0));
        planner.turn(0);
        Check.equal("16: on again", 0, planner.load(0));
    }

    private static void promise17Use() {
        CellPlanner planner = new CellPlanner();
        planner.cell(0, 0, 0, 3);
        planner.cell(20, 0, 1, 3);
        planner.walker(0, 0, 2);
        planner.walker(20, 0, 3);
        Check.badIndex("17: no cell -1", () -> planner.use(-1));
        Check.badIndex("17: no cell 2", () -> planner.use(2));
        Check.equal("17: nobody", 0, planner.use(0));
        planner.tick(1);
        Check.equal("17: rounded down", 66, planner.use(0));
        Check.equal("17: full", 100, planner.use(1));
        planner.turn(1);
        Check.equal("17: off", 0, planner.use(1));
        CellPlanner small = new CellPlanner();
        small.cell(0, 0, 0, 1);
        small.walker(0, 0, 1);
        small.tick(1);
        Check.equal("17: a room of 1", 100, small.use(0));
    }

    private static void promise18ServedBy() {
        CellPlanner planner = Lands.twoCells();
        planner.walker(63, 63, 1);
        planner.tick(1);
        Check.badIndex("18: no walker -1", () -> planner.servedBy(-1));
        Check.badIndex("18: no walker 2", () -> planner.servedBy(2));
        Check.equal("18: served", 0, planner.servedBy(0));
        Check.equal("18: too far off", NONE, planner.servedBy(1));
        Lands.crossAtOnce(planner, 20);
        Check.equal("18: handed over", 1, planner.servedBy(0));
    }

    private static void promise19Favourite() {
        CellPlanner planner = Lands.twoCells();
        Check.badIndex("19: no walker -1", () -> planner.favourite(-1));
        Check.badIndex("19: no walker 1", () -> planner.favourite(1));
        Check.equal("19: its own cell is best", NONE, planner.favourite(0));
        planner.cell(20, 0, 2, 40);
        planner.patience(3);
        planner.move(0, 20, 0);
        Check.equal("19: only a tick finds one", NONE, planner.favourite(0));
        planner.tick(1);
        Check.equal("19: the lowest of the best", 1, planner.favourite(0));
        planner.move(0, -20, 0);
        Check.equal("19: as the last tick left it", 1, planner.favourite(0));
        planner.tick(1);
        Check.equal("19: gone", NONE, planner.favourite(0));
        planner.move(0, 20, 0);
        planner.tick(2);
        planner.turn(1);
        planner.tick(1);
        Check.equal("19: another one", 2, planner.favourite(0));
        planner.tick(2);
        Check.equal("19: handed over, so none", NONE, planner.favourite(0));
    }

    private static void promise20HeldFor() {
        CellPlanner planner = Lands.twoCells();
        Check.badIndex("20: no walker -1", () -> planner.heldFor(-1));
        Check.badIndex("20: no walker 1", () -> planner.heldFor(1));
        Check.equal("20: no favourite", 0, planner.heldFor(0));
        planner.cell(20, 0, 2, 40);
        planner.patience(5);
        planner.move(0, 20, 0);
        planner.tick(1);
        Check.equal("20: one tick", 1, planner.heldFor(0));
        planner.tick(2);
        Check.equal("20: three ticks", 3, planner.heldFor(0));
        planner.turn(1);
        planner.tick(1);
        Check.equal("20: another favourite starts with one", 1, planner.heldFor(0));
        planner.tick(3);
        Check.equal("20: four ticks", 4, planner.heldFor(0));
        planner.bound(10000);
        planner.tick(1);
        Check.equal("20: lost", 0, planner.heldFor(0));
        Check.equal("20: and no favourite then", NONE, planner.favourite(0));
        planner.tick(1);
        Check.equal("20: who comes from none has no favourite", 0, planner.heldFor(0));
    }

    private static void promise21Handovers() {
        CellPlanner planner = Lands.twoCells();
        Check.equal("21: the first cell is no handover", 0, planner.handovers());
        Lands.crossAtOnce(planner, 20);
        Check.equal("21: one", 1, planner.handovers());
        Lands.crossAtOnce(planner, -20);
        Check.equal("21: two", 2, planner.handovers());
        planner.turn(0);
        planner.bound(1);
        planner.tick(1);
        Check.equal("21: to be served again is none", 2, planner.handovers());
    }

    private static void promise22Rings() {
        for (int between = 1; between <= 7; between++) {
            CellPlanner planner = Lands.twoCells();
            Lands.crossAtOnce(planner, 20);
            Check.equal("22: a first handover does not ring", 0, planner.rings());
            if (between > 1) {
                planner.tick(between - 1);
            }
            Lands.crossAtOnce(planner, -20);
            Check.equal("22: handovers", 2, planner.handovers());
            Check.equal("22: back after ticks " + between, between <= 5 ? 1 : 0, planner.rings());
        }
        CellPlanner planner = Lands.twoCells();
        for (int ring = 0; ring < 4; ring++) {
            Lands.crossAtOnce(planner, ring % 2 == 0 ? 20 : -20);
            Check.equal("22: each way back rings", ring, planner.rings());
        }
        CellPlanner first = new CellPlanner();
        first.cell(0, 0, 0, 40);
        first.cell(20, 0, 1, 40);
        first.walker(20, 0, 1);
        first.tick(1);
        Lands.crossAtOnce(first, -20);
        Check.equal("22: a first handover to cell 0", 1, first.handovers());
        Check.equal("22: does not ring either", 0, first.rings());
    }

    private static void promise22RingsForgotten() {
        CellPlanner round = Lands.twoCells();
        round.cell(40, 0, 2, 40);
        round.bound(1);
        Lands.crossAtOnce(round, 20);
        Lands.crossAtOnce(round, 20);
        Check.equal("22: to a third cell", 0, round.rings());
        Lands.crossAtOnce(round, -40);
        Check.equal("22: to the cell before the last one", 0, round.rings());
        Lands.crossAtOnce(round, 40);
        Check.equal("22: but then back", 1, round.rings());

        CellPlanner lost = Lands.twoCells();
        Lands.crossAtOnce(lost, 20);
        lost.move(0, 30, 30);
        lost.tick(1);
        Check.equal("22: a loss", 1, lost.losses());
        lost.move(0, -30, -30);
        lost.tick(1);
        Lands.crossAtOnce(lost, -20);
        Check.equal("22: handed over back", 2, lost.handovers());
        Check.equal("22: but there was a loss", 0, lost.rings());
        Lands.crossAtOnce(lost, 20);
        Check.equal("22: which counts for one handover", 1, lost.rings());

        CellPlanner off = Lands.twoCells();
        Lands.crossAtOnce(off, 20);
        off.turn(1);
        off.turn(1);
        off.tick(1);
        Lands.crossAtOnce(off, -20);
        Check.equal("22: a cell turned off is no loss", 1, off.rings());
    }

    private static void promise23Losses() {
        CellPlanner planner = Lands.twoCells();
        planner.walker(0, 0, 1);
        planner.tick(1);
        Check.equal("23: none", 0, planner.losses());
        planner.move(0, 0, 20);
        planner.tick(1);
        Check.equal("23: the quality of 330 is enough", 0, planner.losses());
        planner.bound(400);
        planner.tick(1);
        Check.equal("23: one", 1, planner.losses());
        planner.tick(3);
        Check.equal("23: who is served by none loses nothing", 1, planner.losses());
        planner.move(1, 0, 20);
        planner.tick(1);
        Check.equal("23: two", 2, planner.losses());
    }

    private static void promise24Unserved() {
        CellPlanner planner = new CellPlanner();
        for (int walker = 0; walker < 6; walker++) {
            planner.walker(walker % 2 * 63, 0, 1);
        }
        Check.equal("24: all", 63, planner.unserved());
        planner.cell(0, 0, 0, 2);
        planner.tick(1);
        Check.equal("24: all but 0 and 2", 58, planner.unserved());
        planner.turn(0);
        Check.equal("24: all again", 63, planner.unserved());
    }

    private static void promise25MostServed() {
        CellPlanner planner = new CellPlanner();
        planner.cell(0, 0, 0, 10);
        Check.equal("25: nobody there", 0, planner.mostServed());
        planner.walker(0, 0, 9);
        planner.walker(0, 0, 2);
        planner.walker(0, 0, 3);
        planner.tick(1);
        Check.equal("25: served now", 6, planner.unserved());
        Check.equal("25: two could be", 2, planner.mostServed());
        planner.cell(0, 10, 1, 8);
        Check.equal("25: with another cell all", 3, planner.mostServed());
        planner.bound(1111);
        Check.equal("25: with a quality below the bound not", 2, planner.mostServed());
        planner.bound(1110);
        Check.equal("25: at the bound all", 3, planner.mostServed());
        planner.turn(1);
        Check.equal("25: a cell that is off serves nobody", 2, planner.mostServed());
        planner.tune(1, 0);
        planner.turn(1);
        Check.equal("25: disturbed by the uses of now", 2, planner.mostServed());
    }

    private static void promise26MostDemand() {
        CellPlanner planner = new CellPlanner();
        planner.cell(0, 0, 0, 10);
        Check.equal("26: nobody there", 0, planner.mostDemand());
        planner.walker(0, 0, 9);
        planner.walker(0, 0, 2);
        planner.walker(0, 0, 3);
        Check.equal("26: one of 9 is more than 2 and 3", 9, planner.mostDemand());
        planner.walker(0, 0, 8);
        Check.equal("26: 8 and 2 are more still", 10, planner.mostDemand());
        planner.cell(0, 10, 1, 9);
        Check.equal("26: 8 and 2, and 9", 19, planner.mostDemand());
        planner.bound(1111);
        Check.equal("26: with a quality below the bound not", 10, planner.mostDemand());
        planner.bound(1110);
        planner.turn(0);
        Check.equal("26: a cell that is off serves nobody", 9, planner.mostDemand());
        planner.turn(1);
        Check.equal("26: all are off", 0, planner.mostDemand());
    }

    private static void promise27BestCell() {
        CellPlanner planner = new CellPlanner();
        Check.badIndex("27: no walker 0", () -> planner.bestCell(0));
        planner.cell(0, 0, 0, 10);
        planner.walker(0, 0, 9);
        planner.walker(0, 1, 2);
        planner.walker(0, 1, 3);
        Check.badIndex("27: no walker -1", () -> planner.bestCell(-1));
        Check.badIndex("27: no walker 3", () -> planner.bestCell(3));
        Check.equal("27: two are more than one of 9", NONE, planner.bestCell(0));
        Check.equal("27: the one of 2", 0, planner.bestCell(1));
        Check.equal("27: and the one of 3", 0, planner.bestCell(2));
        planner.cell(0, 1, 1, 2);
        // 0 with 9 and 1 with 2 on their own places: 80000; 2 would bring 17770 less.
        planner.move(2, 0, 3);
        Check.equal("27: the greater sum of qualities for 0", 0, planner.bestCell(0));
        Check.equal("27: and for 1", 1, planner.bestCell(1));
        Check.equal("27: and so not for 2", NONE, planner.bestCell(2));
        Check.equal("27: it serves nobody really", 7, planner.unserved());
        planner.turn(1);
        Check.equal("27: a cell that is off serves nobody", NONE, planner.bestCell(0));
        planner.bound(10000);
        Check.equal("27: with a quality below the bound not", NONE, planner.bestCell(2));
    }

    private static void promise27BestCellOfSeveral() {
        CellPlanner alike = new CellPlanner();
        alike.cell(0, 0, 0, 4);
        alike.cell(0, 0, 1, 4);
        for (int walker = 0; walker < 6; walker++) {
            alike.walker(5, 0, 2);
        }
        int[] due = {0, 0, 1, 1, NONE, NONE};
        for (int walker = 0; walker < 6; walker++) {
            Check.equal("27: lower cells, none last, walker " + walker, due[walker], alike.bestCell(walker));
        }
        CellPlanner mixed = new CellPlanner();
        mixed.cell(0, 0, 0, 3);
        mixed.cell(0, 0, 1, 3);
        mixed.walker(0, 0, 1);
        mixed.walker(0, 0, 3);
        mixed.walker(0, 0, 2);
        Check.equal("27: all three fit", 3, mixed.mostServed());
        Check.equal("27: 0 goes to the lower cell", 0, mixed.bestCell(0));
        Check.equal("27: so 1 goes to the other one", 1, mixed.bestCell(1));
        Check.equal("27: and 2 fits beside 0", 0, mixed.bestCell(2));
    }

    private static void promise27BestCellByQuality() {
        CellPlanner planner = new CellPlanner();
        planner.cell(0, 0, 0, 10);
        planner.cell(0, 6, 1, 10);
        planner.walker(0, 4, 5);
        Check.equal("27: the nearer cell, though the number is higher", 1, planner.bestCell(0));
        planner.walker(0, 5, 8);
        Check.equal("27: room for one, which needs it more", 0, planner.bestCell(0));
        Check.equal("27: it has the greater sum", 1, planner.bestCell(1));
        planner.move(0, 0, -1);
        planner.move(1, 0, -2);
        planner.bound(10000);
        Check.equal("27: nobody reaches the bound", 0, planner.mostServed());
        Check.equal("27: nobody reaches the bound, 0", NONE, planner.bestCell(0));
        Check.equal("27: nobody reaches the bound, 1", NONE, planner.bestCell(1));
        CellPlanner demands = new CellPlanner();
        demands.cell(0, 0, 0, 2);
        demands.walker(0, 4, 1);
        demands.walker(0, 4, 2);
        Check.equal("27: demands do not count", 0, demands.bestCell(0));
        Check.equal("27: the number of the walker does", NONE, demands.bestCell(1));
    }

    private static void promise27FullLand() {
        CellPlanner planner = new CellPlanner();
        for (int cell = 0; cell < 5; cell++) {
            planner.cell(cell * 10, 0, cell % 3, 10);
        }
        for (int walker = 0; walker < 6; walker++) {
            planner.walker(50 - walker * 10, 0, 10);
        }
        planner.bound(1);
        Check.equal("27: as many as there are cells", 5, planner.mostServed());
        Check.equal("27: all rooms full", 50, planner.mostDemand());
        for (int walker = 1; walker < 6; walker++) {
            Check.equal("27: each at its own cell", 5 - walker, planner.bestCell(walker));
        }
        Check.equal("27: but the one beside", NONE, planner.bestCell(0));
        Check.equal("27: a tick takes them as they come", 0, planner.tick(1));
        Check.equal("27: walker 0 takes the last cell", 4, planner.servedBy(0));
        Check.equal("27: walker 1 the one before", 3, planner.servedBy(1));
        Check.equal("27: walker 5 finds no room", 32, planner.unserved());
    }
}
