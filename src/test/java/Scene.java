/** Three lands, to see in each of them that a refused call changes nothing. */
enum Scene {
    EMPTY, SMALL, FULL;

    /** The scenes in which there are a cell and a walker, of the number 0 at least. */
    static final Scene[] SETTLED = {SMALL, FULL};

    /** The first number that no cell has. */
    int cells() {
        return this == EMPTY ? 0 : this == SMALL ? 2 : 5;
    }

    /** The first number that no walker has. */
    int walkers() {
        return this == EMPTY ? 0 : this == SMALL ? 2 : 6;
    }

    CellPlanner make() {
        CellPlanner planner = new CellPlanner();
        if (this == SMALL) {
            settleTwoCells(planner);
        } else if (this == FULL) {
            settleTwoCells(planner);
            settleTheRest(planner);
        }
        return planner;
    }

    /** Walker 0 has come from cell 0 to cell 1; walker 1 has cell 1 as favourite of one tick. */
    private static void settleTwoCells(CellPlanner planner) {
        planner.cell(0, 1, 0, 40);
        planner.cell(20, 0, 1, 39);
        planner.walker(0, 0, 4);
        planner.walker(1, 0, 3);
        planner.tick(1);
        planner.patience(1);
        planner.move(0, 20, 0);
        planner.tick(1);
        planner.patience(3);
        planner.margin(21);
        planner.bound(90);
        planner.move(1, 19, 0);
        planner.tick(1);
    }

    /** Cell 3 is off; walkers 3 and 4 are served by none. */
    private static void settleTheRest(CellPlanner planner) {
        planner.cell(40, 0, 2, 20);
        planner.cell(60, 0, 0, 10);
        planner.cell(20, 20, 1, 7);
        planner.walker(40, 0, 10);
        planner.walker(60, 63, 10);
        planner.walker(60, 1, 9);
        planner.walker(20, 20, 7);
        planner.tick(1);
        planner.turn(3);
    }

    /** What this scene's land answers now, and in what comes then: the hidden state as well. */
    int[] future(CellPlanner planner) {
        Answers answers = new Answers(planner);
        answers.addAll();
        answers.add(planner.margin(20));
        answers.add(planner.patience(1));
        answers.add(planner.bound(100));
        if (this != EMPTY) {
            planner.move(0, -20, 0);
        }
        answers.add(planner.tick(1));
        answers.addAll();
        for (int cell = 0; cell < cells(); cell++) {
            answers.add(planner.tune(cell, 0));
            answers.add(planner.turn(cell) ? 1 : 0);
        }
        answers.add(planner.tick(2));
        answers.addAll();
        if (this != FULL) {
            answers.add(planner.cell(1, 2, 0, 3));
            answers.add(planner.walker(3, 2, 1));
            answers.addAll();
        }
        return answers.row();
    }
}
