/**
 * A log peeled: its axis, the ribbon by turns, the faults in it, the leaves clipped from it,
 * and the knife's rows. The promises, and the words in capitals, are those of DOC.md.
 *
 * The face tests every argument and throws; the classes inside may then take their arguments
 * as good. All rows are made in constructors, so that no later call makes any object but an
 * exception.
 */
public final class PeelRibbons {
    public static final int NONE = -1;

    private static final int MOST_SLICES = 4;
    private static final int MOST_SIDE = 10;
    private static final int MOST_RADIUS = 1000;
    private static final int MOST_THICK = 1000;
    private static final int MOST_STEP = 1000;
    private static final int MOST_BELOW = 1000;
    private static final int MOST_WIDTH = 500;
    private static final int MOST_WORTH = 1000000;
    private static final int MOST_KNIFE_ANGLE = 100;
    private static final int KINDS = 4;
    private static final int FULL_ANGLE = 360;

    private final Slices slices;
    private final Axes axes;
    private final Ribbon ribbon;
    private final Faults faults;
    private final Leaves leaves;
    private final Clipping clipping;
    private final KnifeRows knifeRows;

    public PeelRibbons(int slices, int side) {
        Slices told = new Slices(nearestOf(slices, 1, MOST_SLICES), nearestOf(side, 1, MOST_SIDE));
        this.slices = told;
        axes = new Axes(told);
        ribbon = new Ribbon();
        faults = new Faults();
        leaves = new Leaves();
        clipping = new Clipping();
        knifeRows = new KnifeRows();
    }

    public boolean cell(int slice, int x, int y, boolean in) throws IndexOutOfBoundsException {
        if (!slices.hasCell(slice, x, y)) {
            throw new IndexOutOfBoundsException("no such slice or cell");
        }
        boolean isNew = slices.tell(slice, x, y, in);
        if (isNew) {
            axes.forget();
            ribbon.forget();
            clipping.forget();
        }
        return isNew;
    }

    public int room() {
        return axes.greatestRoom();
    }

    public int axis(int k) throws IndexOutOfBoundsException {
        if (!isWithin(k, 0, 3)) {
            throw new IndexOutOfBoundsException("an axis has four numbers");
        }
        return axes.number(k);
    }

    public int radius() {
        return axes.greatestRadius();
    }

    public int roomOf(int x0, int y0, int x1, int y1) throws IndexOutOfBoundsException {
        if (!slices.hasCorner(x0, y0) || !slices.hasCorner(x1, y1)) {
            throw new IndexOutOfBoundsException("no such corner");
        }
        return axes.exactRoom(x0, y0, x1, y1);
    }

    public int peel(int thick, int core) throws IllegalArgumentException {
        if (!isWithin(thick, 1, MOST_THICK) || !isWithin(core, 0, MOST_RADIUS)) {
            throw new IllegalArgumentException("thick is 1 .. 1000, core 0 .. 1000");
        }
        ribbon.peelOff(axes.greatestRadius(), thick, core);
        clipping.forget();
        return ribbon.turns();
    }

    public int before(int k) throws IllegalStateException, IndexOutOfBoundsException {
        if (!ribbon.isPeeled()) {
            throw new IllegalStateException("nothing is peeled");
        }
        if (!isWithin(k, 0, ribbon.turns())) {
            throw new IndexOutOfBoundsException("no such turn");
        }
        return ribbon.lengthBefore(k);
    }

    public int fault(int angle, int radius, int kind) throws IllegalArgumentException, IllegalStateException {
        if (!isWithin(angle, 0, FULL_ANGLE - 1) || !isWithin(radius, 0, MOST_RADIUS) || !isKind(kind)) {
            throw new IllegalArgumentException("angle is 0 .. 359, radius 0 .. 1000, kind 0 .. 3");
        }
        if (faults.isFull()) {
            throw new IllegalStateException("there are 16 faults");
        }
        clipping.forget();
        return faults.add(angle, radius, kind);
    }

    public int unrolled(int fault) throws IndexOutOfBoundsException, IllegalStateException {
        if (!faults.has(fault)) {
            throw new IndexOutOfBoundsException("no such fault");
        }
        if (!ribbon.isPeeled()) {
            throw new IllegalStateException("nothing is peeled");
        }
        return faults.placeIn(ribbon, fault);
    }

    public int leaf(int width, int worth) throws IllegalArgumentException, IllegalStateException {
        if (!isWithin(width, 1, MOST_WIDTH) || !isWithin(worth, 0, MOST_WORTH)) {
            throw new IllegalArgumentException("width is 1 .. 500, worth 0 .. 1000000");
        }
        if (leaves.isFull()) {
            throw new IllegalStateException("there are 6 leaves");
        }
        clipping.forget();
        return leaves.add(width, worth);
    }

    public boolean bars(int leaf, int kind, boolean on) throws IndexOutOfBoundsException {
        if (!leaves.has(leaf) || !isKind(kind)) {
            throw new IndexOutOfBoundsException("no such leaf or kind");
        }
        boolean isNew = leaves.tellBar(leaf, kind, on);
        if (isNew) {
            clipping.forget();
        }
        return isNew;
    }

    public int clip(int step) throws IllegalArgumentException, IllegalStateException {
        if (!isWithin(step, 1, MOST_STEP)) {
            throw new IllegalArgumentException("step is 1 .. 1000");
        }
        if (!ribbon.isPeeled()) {
            throw new IllegalStateException("nothing is peeled");
        }
        clipping.cut(ribbon, faults, leaves, step);
        return clipping.count();
    }

    public int at(int k, int what) throws IllegalStateException, IndexOutOfBoundsException {
        if (!clipping.isDone()) {
            throw new IllegalStateException("nothing is clipped");
        }
        if (!isWithin(k, 0, clipping.count() - 1) || !isWithin(what, 0, 1)) {
            throw new IndexOutOfBoundsException("no such clipped leaf or what");
        }
        return what == 0 ? clipping.leafOf(k) : clipping.firstStepOf(k);
    }

    public int clipped(int what) throws IllegalStateException, IndexOutOfBoundsException {
        if (!clipping.isDone()) {
            throw new IllegalStateException("nothing is clipped");
        }
        if (!isWithin(what, 0, 2)) {
            throw new IndexOutOfBoundsException("no such what");
        }
        return what == 0 ? clipping.worth() : what == 1 ? clipping.waste() : clipping.steps();
    }

    public int shrink(int leaf, int above, int below) throws IndexOutOfBoundsException, IllegalArgumentException {
        if (!leaves.has(leaf)) {
            throw new IndexOutOfBoundsException("no such leaf");
        }
        if (!isWithin(below, 1, MOST_BELOW) || !isWithin(above, 0, below)) {
            throw new IllegalArgumentException("below is 1 .. 1000, above 0 .. below");
        }
        return leaves.width(leaf) * above / below;
    }

    public boolean row(int radius, int angle) throws IllegalArgumentException {
        if (!isWithin(radius, 0, MOST_RADIUS) || !knifeRows.isBelowLast(radius)
                || !isWithin(angle, -MOST_KNIFE_ANGLE, MOST_KNIFE_ANGLE)) {
            throw new IllegalArgumentException("radius is 0 .. 1000, below the one before; angle -100 .. 100");
        }
        return knifeRows.add(radius, angle);
    }

    public int knife(int radius) throws IllegalArgumentException {
        if (!isWithin(radius, 0, MOST_RADIUS)) {
            throw new IllegalArgumentException("radius is 0 .. 1000");
        }
        return knifeRows.answerAt(radius);
    }

    private static int nearestOf(int number, int least, int most) {
        return Math.max(least, Math.min(most, number));
    }

    private static boolean isWithin(int number, int least, int most) {
        return number >= least && number <= most;
    }

    private static boolean isKind(int kind) {
        return isWithin(kind, 0, KINDS - 1);
    }

    /** The cells of all slices, and for each place how near what is not IN comes to it. */
    private static final class Slices {
        private final int count;
        private final int side;
        private final int parts;
        /** How many places lie on a line through a slice, both ends with it. */
        private final int reach;
        /** How many cells lie on such a line, with one more beside each end that is never IN. */
        private final int span;
        private final boolean[] in;
        private final int[] nearest;
        private final boolean[] isStale;
        private final int[] nearestInColumn;

        Slices(int count, int side) {
            this.count = count;
            this.side = side;
            parts = Math.max(1, count - 1);
            reach = side * parts + 1;
            span = side + 2;
            in = new boolean[count * span * span];
            nearest = new int[count * reach * reach];
            isStale = new boolean[count];
            for (int slice = 0; slice < count; slice++) {
                isStale[slice] = true;
            }
            nearestInColumn = new int[span];
        }

        int count() {
            return count;
        }

        int side() {
            return side;
        }

        int parts() {
            return parts;
        }

        boolean hasCell(int slice, int x, int y) {
            return isWithin(slice, 0, count - 1) && isWithin(x, 0, side - 1) && isWithin(y, 0, side - 1);
        }

        boolean hasCorner(int x, int y) {
            return isWithin(x, 0, side) && isWithin(y, 0, side);
        }

        boolean tell(int slice, int x, int y, boolean isIn) {
            int index = indexOf(slice, x, y);
            boolean isNew = in[index] != isIn;
            if (isNew) {
                in[index] = isIn;
                isStale[slice] = true;
            }
            return isNew;
        }

        /** The square of the distance from a place of a slice to what is not IN, once measured. */
        int nearestAt(int slice, int px, int py) {
            return nearest[(slice * reach + py) * reach + px];
        }

        void measureWhatChanged() {
            for (int slice = 0; slice < count; slice++) {
                if (isStale[slice]) {
                    measure(slice);
                    isStale[slice] = false;
                }
            }
        }

        private void measure(int slice) {
            for (int py = 0; py < reach; py++) {
                for (int x = -1; x <= side; x++) {
                    nearestInColumn[x + 1] = nearestInColumnOf(slice, x, py);
                }
                for (int px = 0; px < reach; px++) {
                    nearest[(slice * reach + py) * reach + px] = nearestOverColumns(px);
                }
            }
        }

        /**
         * One row of cells beside the slice stands for all that lies beside it: no place of the
         * slice is nearer to what lies further out.
         */
        private int nearestInColumnOf(int slice, int x, int py) {
            int least = Integer.MAX_VALUE;
            for (int y = -1; y <= side; y++) {
                if (!in[indexOf(slice, x, y)]) {
                    int gap = gap(py, y);
                    least = Math.min(least, gap * gap);
                }
            }
            return least;
        }

        private int nearestOverColumns(int px) {
            int least = Integer.MAX_VALUE;
            for (int x = -1; x <= side; x++) {
                int gap = gap(px, x);
                least = Math.min(least, gap * gap + nearestInColumn[x + 1]);
            }
            return least;
        }

        /** Also of a cell beside the slice, -1 or SIDE. */
        private int indexOf(int slice, int x, int y) {
            return (slice * span + y + 1) * span + x + 1;
        }

        /** How far a place is, along one line, from a cell with its sides. */
        private int gap(int place, int cell) {
            int begin = cell * parts;
            int end = begin + parts;
            return place < begin ? begin - place : place > end ? place - end : 0;
        }
    }

    /** The ROOM of axes, and THE AXIS, which is sought again only after a cell has changed. */
    private static final class Axes {
        private static final int HUNDREDTHS_SQUARED = 10000;

        private final Slices slices;
        private final int side;
        private final int parts;
        private final int[] numbers = new int[4];
        private int room;
        private boolean isStale = true;

        Axes(Slices slices) {
            this.slices = slices;
            side = slices.side();
            parts = slices.parts();
        }

        void forget() {
            isStale = true;
        }

        int number(int k) {
            seekIfStale();
            return numbers[k];
        }

        int greatestRoom() {
            seekIfStale();
            return room;
        }

        int greatestRadius() {
            seekIfStale();
            return rootOf(room * HUNDREDTHS_SQUARED) / parts;
        }

        int exactRoom(int x0, int y0, int x1, int y1) {
            slices.measureWhatChanged();
            return roomAbove(0, x0, y0, x1, y1);
        }

        /**
         * The ROOM of an axis if it is above the floor, otherwise any number that is not above
         * it. As no ROOM is below 0, it is exact for the floor 0.
         */
        private int roomAbove(int floor, int x0, int y0, int x1, int y1) {
            int least = Integer.MAX_VALUE;
            for (int slice = slices.count() - 1; slice >= 0 && least > floor; slice--) {
                int px = placeAt(slice, x0, x1);
                int py = placeAt(slice, y0, y1);
                least = Math.min(least, slices.nearestAt(slice, px, py));
            }
            return least;
        }

        private int placeAt(int slice, int from, int to) {
            return from * parts + (to - from) * slice;
        }

        private void seekIfStale() {
            if (isStale) {
                slices.measureWhatChanged();
                seek();
                isStale = false;
            }
        }

        /**
         * The axis 0, 0, 0, 0 lies on the slices' edge and has no ROOM, so it stands until one
         * has more. The loops run in the order in which the first of several is wanted.
         */
        private void seek() {
            keep(0, 0, 0, 0, 0);
            for (int x0 = 0; x0 <= side; x0++) {
                for (int y0 = 0; y0 <= side; y0++) {
                    if (slices.nearestAt(0, x0 * parts, y0 * parts) > room) {
                        seekFrom(x0, y0);
                    }
                }
            }
        }

        private void seekFrom(int x0, int y0) {
            for (int x1 = 0; x1 <= side; x1++) {
                for (int y1 = 0; y1 <= side; y1++) {
                    int found = roomAbove(room, x0, y0, x1, y1);
                    if (found > room) {
                        keep(found, x0, y0, x1, y1);
                    }
                }
            }
        }

        private void keep(int found, int x0, int y0, int x1, int y1) {
            room = found;
            numbers[0] = x0;
            numbers[1] = y0;
            numbers[2] = x1;
            numbers[3] = y1;
        }

        /** No ROOM is above 225 (15 parts squared), so the root is below 2048. */
        private static int rootOf(int square) {
            int root = 0;
            for (int bit = 1024; bit > 0; bit >>= 1) {
                int larger = root + bit;
                if (larger * larger <= square) {
                    root = larger;
                }
            }
            return root;
        }
    }

    /** What was PEELED, and by which numbers. */
    private static final class Ribbon {
        private boolean isPeeled;
        private int radius;
        private int thick = 1;
        private int turns;

        void peelOff(int fromRadius, int byThick, int core) {
            radius = fromRadius;
            thick = Math.max(1, byThick);
            turns = radius < core ? 0 : (radius - core) / thick;
            isPeeled = true;
        }

        void forget() {
            isPeeled = false;
        }

        boolean isPeeled() {
            return isPeeled;
        }

        int turns() {
            return turns;
        }

        int length() {
            return lengthBefore(turns);
        }

        int lengthBefore(int turn) {
            int radii = turn * radius - thick * (turn * (turn - 1) / 2);
            return roundOf(radii);
        }

        int placeOf(int angle, int faultRadius) {
            if (faultRadius > radius || faultRadius <= radius - turns * thick) {
                return NONE;
            }
            int turn = (radius - faultRadius) / thick;
            return lengthBefore(turn) + roundOf(radius - turn * thick) * angle / FULL_ANGLE;
        }

        private static int roundOf(int radii) {
            return radii * 710 / 113;
        }
    }

    /** The FAULTS in the order in which they were told. */
    private static final class Faults {
        private static final int MOST = 16;

        private final int[] angles = new int[MOST];
        private final int[] radii = new int[MOST];
        private final int[] kinds = new int[MOST];
        private int count;

        boolean isFull() {
            return count >= MOST;
        }

        boolean has(int fault) {
            return isWithin(fault, 0, count - 1);
        }

        int count() {
            return count;
        }

        int add(int angle, int radius, int kind) {
            angles[count] = angle;
            radii[count] = radius;
            kinds[count] = kind;
            count++;
            return count - 1;
        }

        int kindBit(int fault) {
            return 1 << kinds[fault];
        }

        int placeIn(Ribbon ribbon, int fault) {
            return ribbon.placeOf(angles[fault], radii[fault]);
        }
    }

    /** The LEAVES in the order in which they were told, the kinds that each BARS as bits. */
    private static final class Leaves {
        private static final int MOST = 6;

        private final int[] widths = new int[MOST];
        private final int[] worths = new int[MOST];
        private final int[] barredBits = new int[MOST];
        private int count;

        boolean isFull() {
            return count >= MOST;
        }

        boolean has(int leaf) {
            return isWithin(leaf, 0, count - 1);
        }

        int count() {
            return count;
        }

        int add(int width, int worth) {
            widths[count] = width;
            worths[count] = worth;
            count++;
            return count - 1;
        }

        boolean tellBar(int leaf, int kind, boolean on) {
            boolean isNew = barsAny(leaf, 1 << kind) != on;
            if (isNew) {
                barredBits[leaf] ^= 1 << kind;
            }
            return isNew;
        }

        boolean barsAny(int leaf, int kindBits) {
            return (barredBits[leaf] & kindBits) != 0;
        }

        int width(int leaf) {
            return widths[leaf];
        }

        int worth(int leaf) {
            return worths[leaf];
        }
    }

    /** What was CLIPPED: chosen step by step from the end on, then read from the begin on. */
    private static final class Clipping {
        private static final int MOST_STEPS = 2000;
        /** One unit of WORTH outweighs all the waste that a ribbon can have. */
        private static final long WORTH_WEIGHT = MOST_STEPS + 1;

        private final int[] kindBitsAt = new int[MOST_STEPS];
        /** The best that can be had from a step on to the end: WORTHS by their weight, less waste. */
        private final long[] bestFrom = new long[MOST_STEPS + 1];
        private final int[] choiceAt = new int[MOST_STEPS];
        private final int[] firstSteps = new int[MOST_STEPS];
        /** By leaf: up to which step, from the one looked at on, it may reach. */
        private final int[] clearUntil = new int[Leaves.MOST];
        private boolean isDone;
        private int steps;
        private int count;
        private int worth;
        private int waste;

        void forget() {
            isDone = false;
        }

        boolean isDone() {
            return isDone;
        }

        int count() {
            return count;
        }

        int worth() {
            return worth;
        }

        int waste() {
            return waste;
        }

        int steps() {
            return steps;
        }

        int leafOf(int k) {
            return choiceAt[firstSteps[k]];
        }

        int firstStepOf(int k) {
            return firstSteps[k];
        }

        void cut(Ribbon ribbon, Faults faults, Leaves leaves, int step) {
            int stepLength = Math.max(1, step);
            steps = Math.min(MOST_STEPS, ribbon.length() / stepLength);
            markFaults(ribbon, faults, stepLength);
            chooseFromTheEnd(leaves);
            listFromTheBegin(leaves);
            isDone = true;
        }

        private void markFaults(Ribbon ribbon, Faults faults, int stepLength) {
            for (int step = 0; step < steps; step++) {
                kindBitsAt[step] = 0;
            }
            for (int fault = 0; fault < faults.count(); fault++) {
                int place = faults.placeIn(ribbon, fault);
                if (place != NONE && place / stepLength < steps) {
                    kindBitsAt[place / stepLength] |= faults.kindBit(fault);
                }
            }
        }

        private void chooseFromTheEnd(Leaves leaves) {
            for (int leaf = 0; leaf < leaves.count(); leaf++) {
                clearUntil[leaf] = steps;
            }
            bestFrom[steps] = 0;
            for (int step = steps - 1; step >= 0; step--) {
                chooseAt(step, leaves);
            }
        }

        /** Waste is tried first and leaf 0 last, as of equal choices the one tried later is kept. */
        private void chooseAt(int step, Leaves leaves) {
            bestFrom[step] = bestFrom[step + 1] - 1;
            choiceAt[step] = NONE;
            for (int leaf = leaves.count() - 1; leaf >= 0; leaf--) {
                if (leaves.barsAny(leaf, kindBitsAt[step])) {
                    clearUntil[leaf] = step;
                }
                int end = step + leaves.width(leaf);
                if (end <= clearUntil[leaf]) {
                    tryLeaf(step, leaf, leaves.worth(leaf) * WORTH_WEIGHT + bestFrom[end]);
                }
            }
        }

        private void tryLeaf(int step, int leaf, long value) {
            if (value >= bestFrom[step]) {
                bestFrom[step] = value;
                choiceAt[step] = leaf;
            }
        }

        /** The sum of WORTHS is at most 2000 * 1000000, which an int holds. */
        private void listFromTheBegin(Leaves leaves) {
            count = 0;
            worth = 0;
            waste = 0;
            int free = 0;
            for (int step = 0; step < steps; step++) {
                if (step < free) {
                    continue;
                }
                int leaf = choiceAt[step];
                if (leaf == NONE) {
                    waste++;
                } else {
                    firstSteps[count] = step;
                    count++;
                    worth += leaves.worth(leaf);
                    free = step + leaves.width(leaf);
                }
            }
        }
    }

    /** The ROWS of the knife, each of a lesser radius than the one before. */
    private static final class KnifeRows {
        private static final int MOST = 8;
        /** Keeps the answers for angles below 0 apart from NONE. */
        private static final int ANSWER_SHIFT = 1000;

        private final int[] radii = new int[MOST];
        private final int[] angles = new int[MOST];
        private int count;

        boolean isBelowLast(int radius) {
            return count == 0 || radius < radii[count - 1];
        }

        boolean add(int radius, int angle) {
            if (count >= MOST) {
                return false;
            }
            radii[count] = radius;
            angles[count] = angle;
            count++;
            return true;
        }

        int answerAt(int radius) {
            for (int row = count - 1; row >= 0; row--) {
                if (radii[row] >= radius) {
                    return angles[row] + ANSWER_SHIFT;
                }
            }
            return NONE;
        }
    }
}
