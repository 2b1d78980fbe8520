import java.util.ArrayList;
import java.util.Arrays;
import java.util.List;

/**
 * A plain and slow model of the document, which does everything anew at each call. The tests
 * compare what the class answers with what it answers.
 */
final class Model {
    final int slices;
    final int side;
    final int parts;
    final boolean[][][] in;
    int[] axisFound;
    boolean peeled;
    boolean clipped;
    int radius;
    int thick;
    int turns;
    int steps;
    int worth;
    int waste;
    final List<int[]> faults = new ArrayList<>();
    final List<int[]> leaves = new ArrayList<>();
    final List<boolean[]> barred = new ArrayList<>();
    final List<int[]> rows = new ArrayList<>();
    final List<Integer> chosen = new ArrayList<>();

    Model(int slices, int side) {
        this.slices = slices < 1 ? 1 : slices > 4 ? 4 : slices;
        this.side = side < 1 ? 1 : side > 10 ? 10 : side;
        parts = this.slices == 1 ? 1 : this.slices - 1;
        in = new boolean[this.slices][this.side][this.side];
    }

    static void index(boolean good) {
        if (!good) {
            throw new Refused("IndexOutOfBoundsException");
        }
    }

    static void argument(boolean good) {
        if (!good) {
            throw new Refused("IllegalArgumentException");
        }
    }

    static void state(boolean good) {
        if (!good) {
            throw new Refused("IllegalStateException");
        }
    }

    boolean cell(int slice, int x, int y, boolean isIn) {
        index(slice >= 0 && slice < slices && x >= 0 && x < side && y >= 0 && y < side);
        if (in[slice][x][y] == isIn) {
            return false;
        }
        in[slice][x][y] = isIn;
        axisFound = null;
        peeled = false;
        clipped = false;
        return true;
    }

    boolean isCorner(int number) {
        return number >= 0 && number <= side;
    }

    int roomOf(int x0, int y0, int x1, int y1) {
        index(isCorner(x0) && isCorner(y0) && isCorner(x1) && isCorner(y1));
        int least = Integer.MAX_VALUE;
        for (int k = 0; k < slices; k++) {
            int px = x0 * parts + (x1 - x0) * k;
            int py = y0 * parts + (y1 - y0) * k;
            for (int x = -1; x <= side; x++) {
                for (int y = -1; y <= side; y++) {
                    boolean beside = x < 0 || y < 0 || x == side || y == side;
                    if (beside || !in[k][x][y]) {
                        int dx = Math.max(0, Math.max(x * parts - px, px - (x + 1) * parts));
                        int dy = Math.max(0, Math.max(y * parts - py, py - (y + 1) * parts));
                        least = Math.min(least, dx * dx + dy * dy);
                    }
                }
            }
        }
        return least;
    }

    /** x0, y0, x1, y1 and the room. */
    int[] axis() {
        if (axisFound != null) {
            return axisFound;
        }
        int[] best = {0, 0, 0, 0, -1};
        for (int x0 = 0; x0 <= side; x0++) {
            for (int y0 = 0; y0 <= side; y0++) {
                for (int x1 = 0; x1 <= side; x1++) {
                    for (int y1 = 0; y1 <= side; y1++) {
                        int room = roomOf(x0, y0, x1, y1);
                        if (room > best[4]) {
                            best = new int[] {x0, y0, x1, y1, room};
                        }
                    }
                }
            }
        }
        axisFound = best;
        return best;
    }

    int numberOfAxis(int k) {
        index(k >= 0 && k <= 3);
        return axis()[k];
    }

    int radiusNow() {
        int square = axis()[4] * 10000;
        int root = 0;
        while ((root + 1) * (root + 1) <= square) {
            root++;
        }
        return root / parts;
    }

    int peel(int byThick, int core) {
        argument(byThick >= 1 && byThick <= 1000 && core >= 0 && core <= 1000);
        radius = radiusNow();
        thick = byThick;
        turns = 0;
        while (radius - (turns + 1) * thick >= core) {
            turns++;
        }
        peeled = true;
        clipped = false;
        return turns;
    }

    int before(int k) {
        state(peeled);
        index(k >= 0 && k <= turns);
        long radii = 0;
        for (int turn = 0; turn < k; turn++) {
            radii += radius - turn * thick;
        }
        return (int) (radii * 710 / 113);
    }

    int fault(int angle, int atRadius, int kind) {
        argument(angle >= 0 && angle <= 359 && atRadius >= 0 && atRadius <= 1000 && kind >= 0 && kind <= 3);
        state(faults.size() < 16);
        faults.add(new int[] {angle, atRadius, kind});
        clipped = false;
        return faults.size() - 1;
    }

    int unrolled(int fault) {
        index(fault >= 0 && fault < faults.size());
        state(peeled);
        int[] f = faults.get(fault);
        for (int turn = 0; turn < turns; turn++) {
            int begin = radius - turn * thick;
            if (f[1] <= begin && f[1] > begin - thick) {
                return before(turn) + begin * 710 / 113 * f[0] / 360;
            }
        }
        return -1;
    }

    int leaf(int width, int leafWorth) {
        argument(width >= 1 && width <= 500 && leafWorth >= 0 && leafWorth <= 1000000);
        state(leaves.size() < 6);
        leaves.add(new int[] {width, leafWorth});
        barred.add(new boolean[4]);
        clipped = false;
        return leaves.size() - 1;
    }

    boolean bars(int leaf, int kind, boolean on) {
        index(leaf >= 0 && leaf < leaves.size() && kind >= 0 && kind <= 3);
        if (barred.get(leaf)[kind] == on) {
            return false;
        }
        barred.get(leaf)[kind] = on;
        clipped = false;
        return true;
    }

    boolean mayLie(int leaf, int first, int step) {
        int end = first + leaves.get(leaf)[0];
        if (end > steps) {
            return false;
        }
        for (int fault = 0; fault < faults.size(); fault++) {
            int place = unrolled(fault);
            boolean inside = place != -1 && place / step >= first && place / step < end;
            if (inside && barred.get(leaf)[faults.get(fault)[2]]) {
                return false;
            }
        }
        return true;
    }

    /** Whole rows of choices are compared: each leaf by its number, waste as a 6. */
    int clip(int step) {
        argument(step >= 1 && step <= 1000);
        state(peeled);
        steps = Math.min(2000, before(turns) / step);
        Rest[] rests = new Rest[steps + 1];
        rests[steps] = new Rest(0, 0, new int[0]);
        for (int at = steps - 1; at >= 0; at--) {
            Rest best = rests[at + 1].after(6, 0, 1);
            for (int leaf = 0; leaf < leaves.size(); leaf++) {
                if (mayLie(leaf, at, step)) {
                    int[] numbers = leaves.get(leaf);
                    best = better(best, rests[at + numbers[0]].after(leaf, numbers[1], 0));
                }
            }
            rests[at] = best;
        }
        read(rests[0]);
        clipped = true;
        return chosen.size() / 2;
    }

    void read(Rest all) {
        worth = all.worth;
        waste = all.waste;
        chosen.clear();
        int at = 0;
        for (int choice : all.choices) {
            if (choice == 6) {
                at++;
            } else {
                chosen.add(choice);
                chosen.add(at);
                at += leaves.get(choice)[0];
            }
        }
    }

    static Rest better(Rest a, Rest b) {
        if (a.worth != b.worth) {
            return a.worth > b.worth ? a : b;
        }
        if (a.waste != b.waste) {
            return a.waste < b.waste ? a : b;
        }
        return Arrays.compare(a.choices, b.choices) <= 0 ? a : b;
    }

    int at(int k, int what) {
        state(clipped);
        index(k >= 0 && k < chosen.size() / 2 && what >= 0 && what <= 1);
        return chosen.get(k * 2 + what);
    }

    int clipped(int what) {
        state(clipped);
        index(what >= 0 && what <= 2);
        return new int[] {worth, waste, steps}[what];
    }

    int shrink(int leaf, int above, int below) {
        index(leaf >= 0 && leaf < leaves.size());
        argument(below >= 1 && below <= 1000 && above >= 0 && above <= below);
        return leaves.get(leaf)[0] * above / below;
    }

    int lastRowRadius() {
        return rows.isEmpty() ? 1000 : rows.get(rows.size() - 1)[0];
    }

    boolean row(int atRadius, int angle) {
        argument(atRadius >= 0 && atRadius <= 1000 && angle >= -100 && angle <= 100);
        argument(rows.isEmpty() || atRadius < lastRowRadius());
        return rows.size() < 8 && rows.add(new int[] {atRadius, angle});
    }

    int knife(int atRadius) {
        argument(atRadius >= 0 && atRadius <= 1000);
        int found = -1;
        for (int[] row : rows) {
            if (row[0] >= atRadius) {
                found = row[1] + 1000;
            }
        }
        return found;
    }

    /** The best from a step on to the end. */
    private static final class Rest {
        final int worth;
        final int waste;
        final int[] choices;

        Rest(int worth, int waste, int[] choices) {
            this.worth = worth;
            this.waste = waste;
            this.choices = choices;
        }

        Rest after(int choice, int moreWorth, int moreWaste) {
            int[] all = new int[choices.length + 1];
            all[0] = choice;
            System.arraycopy(choices, 0, all, 1, choices.length);
            return new Rest(worth + moreWorth, waste + moreWaste, all);
        }
    }

    /** Bears the name of the exception that the document asks for. */
    static final class Refused extends RuntimeException {
        private static final long serialVersionUID = 1;

        Refused(String name) {
            super(name, null, false, false);
        }
    }
}
