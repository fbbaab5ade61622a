/** Lands that several tests begin with. */
final class Lands {
    private Lands() {
    }

    /** Cells 0 at (0,0) and 1 at (20,0) on channels of their own; walker 0, served by cell 0. */
    static CellPlanner twoCells() {
        CellPlanner planner = new CellPlanner();
        planner.cell(0, 0, 0, 40);
        planner.cell(20, 0, 1, 40);
        planner.walker(0, 0, 4);
        planner.tick(1);
        return planner;
    }

    /** Cells in a row at y 0, on channels of their own as long as there are no more than three. */
    static CellPlanner cellsAt(int room, int... places) {
        CellPlanner planner = new CellPlanner();
        for (int cell = 0; cell < places.length; cell++) {
            planner.cell(places[cell], 0, cell % 3, room);
        }
        return planner;
    }

    /** Moves walker 0 along the row and lets a tick pass that hands over at once. */
    static void crossAtOnce(CellPlanner planner, int dx) {
        planner.patience(1);
        planner.move(0, dx, 0);
        planner.tick(1);
    }
}
