import java.util.Arrays;

/** A row of a planner's answers. */
final class Answers {
    private final CellPlanner planner;
    private int[] row = new int[64];
    private int length = 0;

    Answers(CellPlanner planner) {
        this.planner = planner;
    }

    void add(int answer) {
        if (length == row.length) {
            row = Arrays.copyOf(row, 2 * length);
        }
        row[length] = answer;
        length++;
    }

    /** Adds all that can be asked without a change, with 105 calls at most. */
    void addAll() {
        addCounts();
        int cells = planner.cells();
        int walkers = planner.walkers();
        for (int cell = 0; cell < cells; cell++) {
            add(planner.load(cell));
            add(planner.use(cell));
            for (int walker = 0; walker < walkers; walker++) {
                add(planner.signal(cell, walker));
                add(planner.quality(cell, walker));
            }
        }
        for (int walker = 0; walker < walkers; walker++) {
            add(planner.servedBy(walker));
            add(planner.favourite(walker));
            add(planner.heldFor(walker));
            add(planner.bestCell(walker));
        }
    }

    private void addCounts() {
        add(planner.ticks());
        add(planner.cells());
        add(planner.walkers());
        add(planner.handovers());
        add(planner.rings());
        add(planner.losses());
        add(planner.unserved());
        add(planner.mostServed());
        add(planner.mostDemand());
    }

    int[] row() {
        return Arrays.copyOf(row, length);
    }
}
