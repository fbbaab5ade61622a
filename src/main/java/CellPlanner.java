/**
 * A simulator of radio cells and of walkers who carry a phone.
 *
 * The class itself holds the rules and the time; Land holds the places, who is
 * served by whom and what follows from that; Search goes through the assignments.
 */
public final class CellPlanner {
    /** No cell. */
    public static final int NONE = -1;

    private static final int LAST_PLACE = 63;
    private static final int LAST_CHANNEL = 2;
    private static final int GREATEST_ROOM = 40;
    private static final int GREATEST_DEMAND = 10;
    private static final int CELL_LIMIT = 5;
    private static final int WALKER_LIMIT = 6;
    private static final int GREATEST_MARGIN = 1000;
    private static final int GREATEST_PATIENCE = 10;
    private static final int GREATEST_BOUND = 10000;
    private static final int TICK_LIMIT = 20;
    private static final int RING_TICKS = 5;

    /**
     * What a served walker weighs beside the qualities when assignments are compared:
     * more than the qualities of all walkers together, which are at most 6 times 40000.
     */
    private static final int WALKER_WEIGHT = 1000000;

    private final Land land;
    private final Search search;

    // A row for each walker; leftCell is the cell that a ring would lead back to.
    private final int[] favourite;
    private final int[] held;
    private final int[] leftCell;
    private final int[] leftAt;

    private int margin;
    private int patience;
    private int bound;
    private int ticks;
    private int handovers;
    private int rings;
    private int losses;

    public CellPlanner() {
        land = new Land();
        search = new Search(land);
        favourite = new int[WALKER_LIMIT];
        held = new int[WALKER_LIMIT];
        leftCell = new int[WALKER_LIMIT];
        leftAt = new int[WALKER_LIMIT];
        margin = 20;
        patience = 2;
        bound = 100;
    }

    // ---- cells and walkers

    public int cell(int x, int y, int channel, int room)
            throws IllegalArgumentException, IllegalStateException {
        requireRange(x, 0, LAST_PLACE);
        requireRange(y, 0, LAST_PLACE);
        requireRange(channel, 0, LAST_CHANNEL);
        requireRange(room, 1, GREATEST_ROOM);
        if (land.cells >= CELL_LIMIT) {
            throw new IllegalStateException("there are 5 cells");
        }
        return land.addCell(x, y, channel, room);
    }

    public boolean turn(int cell) throws IndexOutOfBoundsException {
        requireCell(cell);
        land.on[cell] = !land.on[cell];
        if (!land.on[cell]) {
            releaseWalkers(cell);
        }
        return land.on[cell];
    }

    public int tune(int cell, int channel)
            throws IndexOutOfBoundsException, IllegalArgumentException {
        requireCell(cell);
        requireRange(channel, 0, LAST_CHANNEL);
        int before = land.channel[cell];
        land.channel[cell] = channel;
        return before;
    }

    public int walker(int x, int y, int demand)
            throws IllegalArgumentException, IllegalStateException {
        requireRange(x, 0, LAST_PLACE);
        requireRange(y, 0, LAST_PLACE);
        requireRange(demand, 1, GREATEST_DEMAND);
        if (land.walkers >= WALKER_LIMIT) {
            throw new IllegalStateException("there are 6 walkers");
        }
        int walker = land.addWalker(x, y, demand);
        dropFavourite(walker);
        leftCell[walker] = NONE;
        return walker;
    }

    public void move(int walker, int dx, int dy)
            throws IndexOutOfBoundsException, IllegalArgumentException {
        requireWalker(walker);
        // In long, because a step may be any int.
        long x = (long) land.walkerX[walker] + dx;
        long y = (long) land.walkerY[walker] + dy;
        requireRange(x, 0, LAST_PLACE);
        requireRange(y, 0, LAST_PLACE);
        land.walkerX[walker] = (int) x;
        land.walkerY[walker] = (int) y;
    }

    // ---- rules and time

    public int margin(int margin) throws IllegalArgumentException {
        requireRange(margin, 0, GREATEST_MARGIN);
        int before = this.margin;
        this.margin = margin;
        return before;
    }

    public int patience(int ticks) throws IllegalArgumentException {
        requireRange(ticks, 1, GREATEST_PATIENCE);
        int before = patience;
        patience = ticks;
        return before;
    }

    public int bound(int bound) throws IllegalArgumentException {
        requireRange(bound, 1, GREATEST_BOUND);
        int before = this.bound;
        this.bound = bound;
        return before;
    }

    public int tick(int ticks) throws IllegalArgumentException {
        requireRange(ticks, 1, TICK_LIMIT);
        int before = handovers;
        for (int passed = 0; passed < ticks; passed++) {
            passTick();
        }
        return handovers - before;
    }

    public int ticks() {
        return ticks;
    }

    // ---- what is

    public int cells() {
        return land.cells;
    }

    public int walkers() {
        return land.walkers;
    }

    public int signal(int cell, int walker) throws IndexOutOfBoundsException {
        requireCell(cell);
        requireWalker(walker);
        return land.signalOf(cell, walker);
    }

    public int quality(int cell, int walker) throws IndexOutOfBoundsException {
        requireCell(cell);
        requireWalker(walker);
        land.measure();
        return land.quality[walker][cell];
    }

    public int load(int cell) throws IndexOutOfBoundsException {
        requireCell(cell);
        return land.loadOf(cell);
    }

    public int use(int cell) throws IndexOutOfBoundsException {
        requireCell(cell);
        return land.useOf(cell);
    }

    public int servedBy(int walker) throws IndexOutOfBoundsException {
        requireWalker(walker);
        return land.server[walker];
    }

    public int favourite(int walker) throws IndexOutOfBoundsException {
        requireWalker(walker);
        return favourite[walker];
    }

    public int heldFor(int walker) throws IndexOutOfBoundsException {
        requireWalker(walker);
        return held[walker];
    }

    public int handovers() {
        return handovers;
    }

    public int rings() {
        return rings;
    }

    public int losses() {
        return losses;
    }

    public int unserved() {
        int set = 0;
        for (int walker = 0; walker < land.walkers; walker++) {
            if (land.server[walker] == NONE) {
                set |= 1 << walker;
            }
        }
        return set;
    }

    // ---- assignments

    public int mostServed() {
        return search.greatestWorth(bound, 1, 0, 0);
    }

    public int mostDemand() {
        return search.greatestWorth(bound, 0, 1, 0);
    }

    public int bestCell(int walker) throws IndexOutOfBoundsException {
        requireWalker(walker);
        search.greatestWorth(bound, WALKER_WEIGHT, 0, 1);
        return search.best[walker];
    }

    private static void requireRange(long value, int least, int most) {
        if (value < least || value > most) {
            throw new IllegalArgumentException("an argument is out of its range");
        }
    }

    private void requireCell(int cell) {
        if (cell < 0 || cell >= land.cells) {
            throw new IndexOutOfBoundsException("there is no such cell");
        }
    }

    private void requireWalker(int walker) {
        if (walker < 0 || walker >= land.walkers) {
            throw new IndexOutOfBoundsException("there is no such walker");
        }
    }

    private void releaseWalkers(int cell) {
        for (int walker = 0; walker < land.walkers; walker++) {
            if (land.server[walker] == cell) {
                land.server[walker] = NONE;
                dropFavourite(walker);
            }
        }
    }

    private void dropFavourite(int walker) {
        favourite[walker] = NONE;
        held[walker] = 0;
    }

    private void passTick() {
        ticks++;
        // Uses count as at the beginning of the tick, and a tick changes nothing else
        // that a quality hangs on: so one measuring stands for all its walkers.
        land.measure();
        for (int walker = 0; walker < land.walkers; walker++) {
            int server = land.server[walker];
            if (server == NONE) {
                seekCell(walker);
            } else if (land.quality[walker][server] < bound) {
                loseCell(walker);
            } else {
                weighFavourite(walker, server);
            }
        }
    }

    private void seekCell(int walker) {
        int cell = land.bestOther(walker);
        if (cell != NONE && land.quality[walker][cell] >= bound) {
            land.server[walker] = cell;
        }
    }

    private void loseCell(int walker) {
        losses++;
        land.server[walker] = NONE;
        dropFavourite(walker);
        // After a loss no handover rings until there has been another one.
        leftCell[walker] = NONE;
    }

    private void weighFavourite(int walker, int server) {
        int cell = land.bestOther(walker);
        if (cell == NONE || land.quality[walker][cell] < land.quality[walker][server] + margin) {
            dropFavourite(walker);
            return;
        }
        held[walker] = cell == favourite[walker] ? held[walker] + 1 : 1;
        favourite[walker] = cell;
        if (held[walker] >= patience) {
            handOver(walker, server, cell);
        }
    }

    private void handOver(int walker, int from, int to) {
        handovers++;
        if (to == leftCell[walker] && ticks - leftAt[walker] <= RING_TICKS) {
            rings++;
        }
        leftCell[walker] = from;
        leftAt[walker] = ticks;
        land.server[walker] = to;
        dropFavourite(walker);
    }

    /** Cells and walkers, who is served by whom, and the signals, loads and qualities. */
    private static final class Land {
        // A row for each cell.
        final int[] cellX = new int[CELL_LIMIT];
        final int[] cellY = new int[CELL_LIMIT];
        final int[] channel = new int[CELL_LIMIT];
        final int[] room = new int[CELL_LIMIT];
        final boolean[] on = new boolean[CELL_LIMIT];
        int cells;

        // A row for each walker.
        final int[] walkerX = new int[WALKER_LIMIT];
        final int[] walkerY = new int[WALKER_LIMIT];
        final int[] demand = new int[WALKER_LIMIT];
        final int[] server = new int[WALKER_LIMIT];
        int walkers;

        // What the last measuring found; uses and qualities of now may be others.
        final int[] measuredUse = new int[CELL_LIMIT];
        final int[][] quality = new int[WALKER_LIMIT][CELL_LIMIT];

        int addCell(int x, int y, int itsChannel, int itsRoom) {
            int cell = cells;
            cellX[cell] = x;
            cellY[cell] = y;
            channel[cell] = itsChannel;
            room[cell] = itsRoom;
            on[cell] = true;
            cells++;
            return cell;
        }

        int addWalker(int x, int y, int itsDemand) {
            int walker = walkers;
            walkerX[walker] = x;
            walkerY[walker] = y;
            demand[walker] = itsDemand;
            server[walker] = NONE;
            walkers++;
            return walker;
        }

        int loadOf(int cell) {
            int load = 0;
            for (int walker = 0; walker < walkers; walker++) {
                if (server[walker] == cell) {
                    load += demand[walker];
                }
            }
            return load;
        }

        int useOf(int cell) {
            return room[cell] > 0 ? 100 * loadOf(cell) / room[cell] : 0;
        }

        int signalOf(int cell, int walker) {
            int distance = Math.abs(cellX[cell] - walkerX[walker])
                    + Math.abs(cellY[cell] - walkerY[walker]);
            return 16000 / ((distance + 2) * (distance + 2));
        }

        /** Finds all uses and qualities of now. */
        void measure() {
            for (int cell = 0; cell < cells; cell++) {
                measuredUse[cell] = useOf(cell);
            }
            for (int walker = 0; walker < walkers; walker++) {
                for (int cell = 0; cell < cells; cell++) {
                    quality[walker][cell] =
                            100 * signalOf(cell, walker) / (10 + disturbances(cell, walker));
                }
            }
        }

        private int disturbances(int cell, int walker) {
            int sum = 0;
            for (int other = 0; other < cells; other++) {
                if (other != cell && on[other] && channel[other] == channel[cell]) {
                    sum += signalOf(other, walker) * measuredUse[other] / 100;
                }
            }
            return sum;
        }

        /** The cell of the greatest measured quality that could take the walker over. */
        int bestOther(int walker) {
            int best = NONE;
            for (int cell = 0; cell < cells; cell++) {
                if (couldTake(cell, walker)
                        && (best == NONE || quality[walker][cell] > quality[walker][best])) {
                    best = cell;
                }
            }
            return best;
        }

        private boolean couldTake(int cell, int walker) {
            return on[cell] && server[walker] != cell
                    && loadOf(cell) + demand[walker] <= room[cell];
        }
    }

    /**
     * Finds the assignment of the greatest worth. It tries, walker by walker, the cells by
     * rising numbers and none last; so of several assignments with the same worth it meets
     * the one first that the document wants.
     */
    private static final class Search {
        private final Land land;
        // worth[w][c] is what the assignment gains if w is served by c; 0 if it may not be.
        private final int[][] worth = new int[WALKER_LIMIT][CELL_LIMIT];
        // hope[w] is what w and the walkers after it could gain at most.
        private final int[] hope = new int[WALKER_LIMIT + 1];
        private final int[] roomLeft = new int[CELL_LIMIT];
        private final int[] chosen = new int[WALKER_LIMIT];
        final int[] best = new int[WALKER_LIMIT];
        private int bestWorth;

        Search(Land land) {
            this.land = land;
        }

        /**
         * A served walker is worth perWalker, and perDemand times its demand, and
         * perQuality times the quality of its cell. At least one of them is above 0.
         */
        int greatestWorth(int bound, int perWalker, int perDemand, int perQuality) {
            land.measure();
            hope[land.walkers] = 0;
            for (int walker = land.walkers - 1; walker >= 0; walker--) {
                int gain = perWalker + perDemand * land.demand[walker];
                hope[walker] = hope[walker + 1] + fillWorth(walker, bound, gain, perQuality);
            }
            System.arraycopy(land.room, 0, roomLeft, 0, land.cells);
            bestWorth = NONE;
            place(this, 0, 0);
            return bestWorth;
        }

        /** Returns the greatest worth of the walker's row. */
        private int fillWorth(int walker, int bound, int gain, int perQuality) {
            int most = 0;
            for (int cell = 0; cell < land.cells; cell++) {
                int quality = land.quality[walker][cell];
                boolean allowed = land.on[cell] && quality >= bound;
                worth[walker][cell] = allowed ? gain + perQuality * quality : 0;
                most = Math.max(most, worth[walker][cell]);
            }
            return most;
        }

        private static void place(Search search, int walker, int gained) {
            // Only more worth wins, so what can't bring more need not be tried.
            if (gained + search.hope[walker] <= search.bestWorth) {
                return;
            }
            if (walker >= search.land.walkers) {
                search.keep(gained);
                return;
            }
            int need = search.land.demand[walker];
            for (int cell = 0; cell < search.land.cells; cell++) {
                int gain = search.worth[walker][cell];
                if (gain > 0 && search.roomLeft[cell] >= need) {
                    search.roomLeft[cell] -= need;
                    search.chosen[walker] = cell;
                    place(search, walker + 1, gained + gain);
                    search.roomLeft[cell] += need;
                }
            }
            search.chosen[walker] = NONE;
            place(search, walker + 1, gained);
        }

        private void keep(int gained) {
            bestWorth = gained;
            System.arraycopy(chosen, 0, best, 0, land.walkers);
        }
    }
}
