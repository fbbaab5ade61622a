import java.util.ArrayList;
import java.util.List;

/** The document once more, as slowly and as near to its words as can be, to compare with. */
final class Model {
    static final class Cell {
        int x;
        int y;
        int channel;
        int room;
        boolean on = true;
        int useAtBeginning;
    }

    static final class Walker {
        int x;
        int y;
        int demand;
        Cell server;
        Cell favourite;
        int held;
        Cell servedUntilHandover;
        int handoverTick;
        boolean lossSince;
    }

    final List<Cell> cells = new ArrayList<>();
    final List<Walker> walkers = new ArrayList<>();
    int margin = 20;
    int patience = 2;
    int bound = 100;
    int ticks;
    int handovers;
    int rings;
    int losses;

    int load(Cell cell) {
        int sum = 0;
        for (Walker walker : walkers) {
            sum += walker.server == cell ? walker.demand : 0;
        }
        return sum;
    }

    int use(Cell cell) {
        return 100 * load(cell) / cell.room;
    }

    int signal(Cell cell, Walker walker) {
        int d = Math.abs(cell.x - walker.x) + Math.abs(cell.y - walker.y);
        return 16000 / ((d + 2) * (d + 2));
    }

    int quality(Cell cell, Walker walker, boolean usesOfNow) {
        int below = 10;
        for (Cell other : cells) {
            if (other != cell && other.on && other.channel == cell.channel) {
                int use = usesOfNow ? use(other) : other.useAtBeginning;
                below += signal(other, walker) * use / 100;
            }
        }
        return 100 * signal(cell, walker) / below;
    }

    void turn(Cell cell) {
        cell.on = !cell.on;
        for (Walker walker : walkers) {
            if (walker.server == cell) {
                walker.server = null;
                walker.favourite = null;
            }
        }
    }

    void tick() {
        ticks++;
        for (Cell cell : cells) {
            cell.useAtBeginning = use(cell);
        }
        for (Walker walker : walkers) {
            if (walker.server == null) {
                walker.server = best(walker, bound);
            } else if (quality(walker.server, walker, false) < bound) {
                walker.server = null;
                walker.favourite = null;
                walker.lossSince = true;
                losses++;
            } else {
                servedTick(walker);
            }
        }
    }

    private void servedTick(Walker walker) {
        int own = quality(walker.server, walker, false);
        Cell found = best(walker, own + margin);
        walker.held = found != null && found == walker.favourite ? walker.held + 1 : 1;
        walker.favourite = found;
        if (found == null || walker.held < patience) {
            return;
        }
        handovers++;
        if (found == walker.servedUntilHandover && ticks <= walker.handoverTick + 5 && !walker.lossSince) {
            rings++;
        }
        walker.servedUntilHandover = walker.server;
        walker.handoverTick = ticks;
        walker.lossSince = false;
        walker.server = found;
        walker.favourite = null;
    }

    private Cell best(Walker walker, int least) {
        Cell best = null;
        for (Cell cell : cells) {
            boolean free = cell != walker.server && cell.on && load(cell) + walker.demand <= cell.room;
            int quality = quality(cell, walker, false);
            if (free && quality >= least && (best == null || quality > quality(best, walker, false))) {
                best = cell;
            }
        }
        return best;
    }

    /** mostServed, mostDemand and then bestCell for each walker. */
    int[] assignments() {
        int count = walkers.size();
        int[] digits = new int[count];
        int[] answer = new int[2 + count];
        long[] bestSums = {-1, -1};
        do {
            long[] sums = sumsOf(digits);
            if (sums == null) {
                continue;
            }
            answer[0] = (int) Math.max(answer[0], sums[0]);
            answer[1] = (int) Math.max(answer[1], sums[2]);
            if (sums[0] > bestSums[0] || sums[0] == bestSums[0] && sums[1] > bestSums[1]) {
                bestSums = sums;
                for (int walker = 0; walker < count; walker++) {
                    answer[2 + walker] = digits[walker] == cells.size() ? -1 : digits[walker];
                }
            }
        } while (countOn(digits));
        return answer;
    }

    /** Served walkers, qualities and demands of an assignment; null if it is not allowed. */
    private long[] sumsOf(int[] digits) {
        int[] loads = new int[cells.size()];
        long[] sums = new long[3];
        for (int w = 0; w < digits.length; w++) {
            if (digits[w] == cells.size()) {
                continue;
            }
            Cell cell = cells.get(digits[w]);
            Walker walker = walkers.get(w);
            int quality = quality(cell, walker, true);
            loads[digits[w]] += walker.demand;
            if (!cell.on || quality < bound || loads[digits[w]] > cell.room) {
                return null;
            }
            sums[0]++;
            sums[1] += quality;
            sums[2] += walker.demand;
        }
        return sums;
    }

    /** The next assignment, with walker 0 as the highest digit and none as the highest value. */
    private boolean countOn(int[] digits) {
        for (int w = digits.length - 1; w >= 0; w--) {
            if (digits[w] < cells.size()) {
                digits[w]++;
                return true;
            }
            digits[w] = 0;
        }
        return false;
    }
}
