import java.util.Random;

/** Long runs of calls, always the same ones, with the answers compared with those of Model. */
public final class ModelTest {
    private static final int RUNS = 6000;
    private static final int STEPS = 46;
    /** Nothing is promised about an object after so many calls. */
    private static final int CALL_LIMIT = 512;

    private final Random random;
    private final CellPlanner planner = new CellPlanner();
    private final Model model = new Model();
    private final int width;
    private final String name;
    private int calls = 0;

    private ModelTest(int run) {
        random = new Random(run);
        width = new int[] {4, 12, 30, 64}[run % 4];
        name = "run " + run;
    }

    public static void main(String[] args) {
        long handovers = 0;
        long rings = 0;
        long losses = 0;
        int mostCalls = 0;
        for (int run = 0; run < RUNS; run++) {
            ModelTest test = new ModelTest(run);
            test.settle();
            for (int step = 0; step < STEPS; step++) {
                test.step();
                test.compareSome();
            }
            test.compareAll();
            test.compareAssignments();
            handovers += test.model.handovers;
            rings += test.model.rings;
            losses += test.model.losses;
            mostCalls = Math.max(mostCalls, test.calls);
        }
        Check.holds("many handovers in them, " + handovers, handovers > 3000);
        Check.holds("many rings in them, " + rings, rings > 600);
        Check.holds("many losses in them, " + losses, losses > 3000);
        Check.holds("not too many calls of one object, " + mostCalls, mostCalls <= CALL_LIMIT);
        Check.end("ModelTest");
    }

    private void equal(String what, long due, long got) {
        calls++;
        Check.equal(name + " " + what, due, got);
    }

    private void badArgument(String what, Runnable call) {
        calls++;
        Check.badArgument(name + " " + what, call);
    }

    private void badState(String what, Runnable call) {
        calls++;
        Check.badState(name + " " + what, call);
    }

    private void badIndex(String what, Runnable call) {
        calls++;
        Check.badIndex(name + " " + what, call);
    }

    private void settle() {
        int cells = random.nextInt(6);
        int walkers = random.nextInt(7);
        for (int cell = 0; cell < cells; cell++) {
            build();
        }
        for (int walker = 0; walker < walkers; walker++) {
            come();
        }
        if (random.nextBoolean()) {
            margin(random.nextInt(40));
            patience(1 + random.nextInt(3));
            bound(1 + random.nextInt(400));
        }
    }

    private void build() {
        if (model.cells.size() == 5) {
            badState("cell", () -> planner.cell(0, 0, 0, 1));
            return;
        }
        Model.Cell cell = new Model.Cell();
        cell.x = random.nextInt(width);
        cell.y = random.nextInt(width);
        cell.channel = random.nextInt(3);
        cell.room = 1 + random.nextInt(random.nextBoolean() ? 40 : 15);
        equal("cell", model.cells.size(), planner.cell(cell.x, cell.y, cell.channel, cell.room));
        model.cells.add(cell);
    }

    private void come() {
        if (model.walkers.size() == 6) {
            badState("walker", () -> planner.walker(0, 0, 1));
            return;
        }
        Model.Walker walker = new Model.Walker();
        walker.x = random.nextInt(width);
        walker.y = random.nextInt(width);
        walker.demand = 1 + random.nextInt(10);
        equal("walker", model.walkers.size(), planner.walker(walker.x, walker.y, walker.demand));
        model.walkers.add(walker);
    }

    private void step() {
        int kind = random.nextInt(20);
        if (kind < 8) {
            tick(1 + random.nextInt(random.nextInt(5) == 0 ? 20 : 2));
        } else if (kind < 15) {
            move();
        } else if (kind < 16) {
            turn();
        } else if (kind < 17) {
            tune();
        } else if (kind < 18) {
            rule();
        } else if (random.nextInt(10) == 0) {
            build();
        } else if (random.nextInt(10) == 0) {
            come();
        }
    }

    private void tick(int ticks) {
        int before = model.handovers;
        for (int passed = 0; passed < ticks; passed++) {
            model.tick();
        }
        equal("tick", model.handovers - before, planner.tick(ticks));
    }

    private void move() {
        int number = random.nextInt(7);
        int dx = random.nextInt(width) - random.nextInt(width);
        int dy = random.nextInt(width) - random.nextInt(width);
        if (number >= model.walkers.size()) {
            badIndex("move", () -> planner.move(number, dx, dy));
            return;
        }
        Model.Walker walker = model.walkers.get(number);
        int x = walker.x + dx;
        int y = walker.y + dy;
        if (x < 0 || x > 63 || y < 0 || y > 63) {
            badArgument("move", () -> planner.move(number, dx, dy));
            return;
        }
        calls++;
        planner.move(number, dx, dy);
        walker.x = x;
        walker.y = y;
    }

    private void turn() {
        int number = random.nextInt(6);
        if (number >= model.cells.size()) {
            badIndex("turn", () -> planner.turn(number));
            return;
        }
        model.turn(model.cells.get(number));
        equal("turn", model.cells.get(number).on ? 1 : 0, planner.turn(number) ? 1 : 0);
    }

    private void tune() {
        int number = random.nextInt(6);
        int channel = random.nextInt(4);
        if (number >= model.cells.size()) {
            badIndex("tune", () -> planner.tune(number, channel));
        } else if (channel > 2) {
            badArgument("tune", () -> planner.tune(number, channel));
        } else {
            Model.Cell cell = model.cells.get(number);
            equal("tune", cell.channel, planner.tune(number, channel));
            cell.channel = channel;
        }
    }

    private void rule() {
        int kind = random.nextInt(3);
        if (kind == 0) {
            margin(random.nextInt(random.nextBoolean() ? 1001 : 30));
        } else if (kind == 1) {
            patience(1 + random.nextInt(random.nextBoolean() ? 10 : 2));
        } else {
            bound(1 + random.nextInt(random.nextInt(8) == 0 ? 10000 : 300));
        }
    }

    private void margin(int margin) {
        equal("margin", model.margin, planner.margin(margin));
        model.margin = margin;
    }

    private void patience(int patience) {
        equal("patience", model.patience, planner.patience(patience));
        model.patience = patience;
    }

    private void bound(int bound) {
        equal("bound", model.bound, planner.bound(bound));
        model.bound = bound;
    }

    /** A few answers after each step; all of them would be too many calls. */
    private void compareSome() {
        int cell = random.nextInt(5);
        int walker = random.nextInt(6);
        boolean thereIsCell = cell < model.cells.size();
        boolean thereIsWalker = walker < model.walkers.size();
        if (thereIsWalker) {
            compareWalker(walker);
        }
        if (thereIsWalker && thereIsCell) {
            equal("quality", model.quality(model.cells.get(cell), model.walkers.get(walker), true),
                    planner.quality(cell, walker));
        }
        if (thereIsCell) {
            equal("load", model.load(model.cells.get(cell)), planner.load(cell));
        }
        equal("rings", model.rings, planner.rings());
        equal("losses", model.losses, planner.losses());
    }

    private void compareAll() {
        equal("ticks", model.ticks, planner.ticks());
        equal("cells", model.cells.size(), planner.cells());
        equal("walkers", model.walkers.size(), planner.walkers());
        equal("handovers", model.handovers, planner.handovers());
        equal("rings", model.rings, planner.rings());
        equal("losses", model.losses, planner.losses());
        for (int cell = 0; cell < model.cells.size(); cell++) {
            compareCell(cell, model.cells.get(cell));
        }
        int unserved = 0;
        for (int walker = 0; walker < model.walkers.size(); walker++) {
            compareWalker(walker);
            unserved += model.walkers.get(walker).server == null ? 1 << walker : 0;
        }
        equal("unserved", unserved, planner.unserved());
    }

    private void compareCell(int number, Model.Cell cell) {
        equal("load", model.load(cell), planner.load(number));
        equal("use", model.use(cell), planner.use(number));
        for (int w = 0; w < model.walkers.size(); w++) {
            Model.Walker walker = model.walkers.get(w);
            equal("signal", model.signal(cell, walker), planner.signal(number, w));
            equal("quality", model.quality(cell, walker, true), planner.quality(number, w));
        }
    }

    private void compareWalker(int number) {
        Model.Walker walker = model.walkers.get(number);
        equal("servedBy", model.cells.indexOf(walker.server), planner.servedBy(number));
        equal("favourite", model.cells.indexOf(walker.favourite), planner.favourite(number));
        equal("heldFor", walker.favourite == null ? 0 : walker.held, planner.heldFor(number));
    }

    private void compareAssignments() {
        int[] due = model.assignments();
        equal("mostServed", due[0], planner.mostServed());
        equal("mostDemand", due[1], planner.mostDemand());
        for (int walker = 0; walker < model.walkers.size(); walker++) {
            equal("bestCell", due[2 + walker], planner.bestCell(walker));
        }
    }
}
