import java.util.Random;

/** Long runs of calls, always the same ones, with every answer compared with that of Model. */
public final class ModelTest {
    private static final int RUNS = 1500;
    private static final int CALLS = 60;

    private final Random random;
    private final CellPlanner planner = new CellPlanner();
    private final Model model = new Model();
    private final int width;
    private final String name;

    private ModelTest(int run) {
        random = new Random(run);
        width = new int[] {4, 12, 30, 64}[run % 4];
        name = "run " + run;
    }

    public static void main(String[] args) {
        long handovers = 0;
        long rings = 0;
        long losses = 0;
        for (int run = 0; run < RUNS; run++) {
            ModelTest test = new ModelTest(run);
            test.settle();
            for (int call = 0; call < CALLS; call++) {
                test.step();
                test.compare();
            }
            test.compareAssignments();
            handovers += test.model.handovers;
            rings += test.model.rings;
            losses += test.model.losses;
        }
        Check.holds("many handovers in them, " + handovers, handovers > 1000);
        Check.holds("many rings in them, " + rings, rings > 200);
        Check.holds("many losses in them, " + losses, losses > 1000);
        Check.end("ModelTest");
    }

    private void settle() {
        int cells = random.nextInt(6);
        int walkers = random.nextInt(7);
        for (int cell = 0; cell < cells; cell++) {
            build();
        }
        for (int walker = 0; walker < walkers; walker++) {
            come();
        }
        if (random.nextBoolean()) {
            model.patience = 1 + random.nextInt(3);
            planner.patience(model.patience);
            model.margin = random.nextInt(40);
            planner.margin(model.margin);
            model.bound = 1 + random.nextInt(400);
            planner.bound(model.bound);
        }
        compare();
    }

    private void build() {
        if (model.cells.size() == 5) {
            Check.badState(name, () -> planner.cell(0, 0, 0, 1));
            return;
        }
        Model.Cell cell = new Model.Cell();
        cell.x = random.nextInt(width);
        cell.y = random.nextInt(width);
        cell.channel = random.nextInt(3);
        cell.room = 1 + random.nextInt(random.nextBoolean() ? 40 : 15);
        Check.equal(name, model.cells.size(), planner.cell(cell.x, cell.y, cell.channel, cell.room));
        model.cells.add(cell);
    }

    private void come() {
        if (model.walkers.size() == 6) {
            Check.badState(name, () -> planner.walker(0, 0, 1));
            return;
        }
        Model.Walker walker = new Model.Walker();
        walker.x = random.nextInt(width);
        walker.y = random.nextInt(width);
        walker.demand = 1 + random.nextInt(10);
        Check.equal(name, model.walkers.size(), planner.walker(walker.x, walker.y, walker.demand));
        model.walkers.add(walker);
    }

    private void step() {
        int kind = random.nextInt(20);
        if (kind < 8) {
            tick(1 + random.nextInt(random.nextInt(5) == 0 ? 20 : 2));
        } else if (kind < 15) {
            move();
        } else if (kind < 16) {
            turn();
        } else if (kind < 17) {
            tune();
        } else if (kind < 18) {
            rule();
        } else if (random.nextInt(10) == 0) {
            build();
        } else if (random.nextInt(10) == 0) {
            come();
        }
    }

    private void tick(int ticks) {
        int before = model.handovers;
        for (int passed = 0; passed < ticks; passed++) {
            model.tick();
        }
        Check.equal(name, model.handovers - before, planner.tick(ticks));
    }

    private void move() {
        int number = random.nextInt(7);
        int dx = random.nextInt(width) - random.nextInt(width);
        int dy = random.nextInt(width) - random.nextInt(width);
        if (number >= model.walkers.size()) {
            Check.badIndex(name, () -> planner.move(number, dx, dy));
            return;
        }
        Model.Walker walker = model.walkers.get(number);
        int x = walker.x + dx;
        int y = walker.y + dy;
        if (x < 0 || x > 63 || y < 0 || y > 63) {
            Check.badArgument(name, () -> planner.move(number, dx, dy));
            return;
        }
        planner.move(number, dx, dy);
        walker.x = x;
        walker.y = y;
    }

    private void turn() {
        int number = random.nextInt(6);
        if (number >= model.cells.size()) {
            Check.badIndex(name, () -> planner.turn(number));
            return;
        }
        model.turn(model.cells.get(number));
        Check.holds(name, planner.turn(number) == model.cells.get(number).on);
    }

    private void tune() {
        int number = random.nextInt(6);
        int channel = random.nextInt(4);
        if (number >= model.cells.size()) {
            Check.badIndex(name, () -> planner.tune(number, channel));
        } else if (channel > 2) {
            Check.badArgument(name, () -> planner.tune(number, channel));
        } else {
            Model.Cell cell = model.cells.get(number);
            Check.equal(name, cell.channel, planner.tune(number, channel));
            cell.channel = channel;
        }
    }

    private void rule() {
        int kind = random.nextInt(3);
        if (kind == 0) {
            int margin = random.nextInt(random.nextBoolean() ? 1001 : 30);
            Check.equal(name, model.margin, planner.margin(margin));
            model.margin = margin;
        } else if (kind == 1) {
            int patience = 1 + random.nextInt(random.nextBoolean() ? 10 : 2);
            Check.equal(name, model.patience, planner.patience(patience));
            model.patience = patience;
        } else {
            int bound = 1 + random.nextInt(random.nextInt(8) == 0 ? 10000 : 300);
            Check.equal(name, model.bound, planner.bound(bound));
            model.bound = bound;
        }
    }

    private void compare() {
        Check.equal(name + " ticks", model.ticks, planner.ticks());
        Check.equal(name + " cells", model.cells.size(), planner.cells());
        Check.equal(name + " walkers", model.walkers.size(), planner.walkers());
        Check.equal(name + " handovers", model.handovers, planner.handovers());
        Check.equal(name + " rings", model.rings, planner.rings());
        Check.equal(name + " losses", model.losses, planner.losses());
        for (int cell = 0; cell < model.cells.size(); cell++) {
            compareCell(cell, model.cells.get(cell));
        }
        int unserved = 0;
        for (int walker = 0; walker < model.walkers.size(); walker++) {
            compareWalker(walker, model.walkers.get(walker));
            unserved += model.walkers.get(walker).server == null ? 1 << walker : 0;
        }
        Check.equal(name + " unserved", unserved, planner.unserved());
    }

    private void compareCell(int number, Model.Cell cell) {
        Check.equal(name + " load", model.load(cell), planner.load(number));
        Check.equal(name + " use", model.use(cell), planner.use(number));
        for (int w = 0; w < model.walkers.size(); w++) {
            Model.Walker walker = model.walkers.get(w);
            Check.equal(name + " signal", model.signal(cell, walker), planner.signal(number, w));
            Check.equal(name + " quality", model.quality(cell, walker, true), planner.quality(number, w));
        }
    }

    private void compareWalker(int number, Model.Walker walker) {
        Check.equal(name + " servedBy", model.cells.indexOf(walker.server), planner.servedBy(number));
        Check.equal(name + " favourite", model.cells.indexOf(walker.favourite), planner.favourite(number));
        int held = walker.favourite == null ? 0 : walker.held;
        Check.equal(name + " heldFor", held, planner.heldFor(number));
    }

    private void compareAssignments() {
        int[] due = model.assignments();
        Check.equal(name + " mostServed", due[0], planner.mostServed());
        Check.equal(name + " mostDemand", due[1], planner.mostDemand());
        for (int walker = 0; walker < model.walkers.size(); walker++) {
            Check.equal(name + " bestCell", due[2 + walker], planner.bestCell(walker));
        }
        compare();
    }
}
