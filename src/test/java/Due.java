import java.util.concurrent.Callable;
import java.util.function.Function;
import java.util.function.Supplier;

/** What the tests of sentences share: logs made ready, and checks of what calls answer. */
abstract class Due {
    static final Class<?> INDEX = IndexOutOfBoundsException.class;
    static final Class<?> ARGUMENT = IllegalArgumentException.class;
    static final Class<?> STATE = IllegalStateException.class;
    static final int NONE = PeelRibbons.NONE;
    static final int LEAST = Integer.MIN_VALUE;
    static final int MOST = Integer.MAX_VALUE;

    private static int wrong = 0;
    private static String test = "";

    static void begin(String name) {
        test = name;
    }

    static int wrongs() {
        return wrong;
    }

    /** Wanted is an answer, or the class of the exception that the call must throw. */
    static void due(Object want, Callable<Object> call) {
        Object got = answerOf(call);
        if (!want.equals(got)) {
            wrong++;
            System.out.println(test + ", line" + linesOfTest() + ": answered " + got + ", due is " + want);
        }
    }

    /**
     * As due, of a call that may change nothing: all that can be seen of the log behind it must
     * be what is seen of another log to which the same was told, but for this call.
     */
    static void dueKept(Object want, Supplier<PeelRibbons> told, Function<PeelRibbons, Object> call) {
        PeelRibbons asked = told.get();
        due(want, () -> call.apply(asked));
        due(picture(told.get()), () -> picture(asked));
    }

    static void dueAxis(PeelRibbons x, int... numbers) {
        for (int k = 0; k < numbers.length; k++) {
            int number = k;
            due(numbers[k], () -> x.axis(number));
        }
    }

    static void dueClipped(PeelRibbons x, int worth, int waste, int steps) {
        due(worth, () -> x.clipped(0));
        due(waste, () -> x.clipped(1));
        due(steps, () -> x.clipped(2));
    }

    /** Pairs of a leaf and its first step, and no leaf behind them. */
    static void dueLeaves(PeelRibbons x, int... pairs) {
        for (int i = 0; i < pairs.length; i++) {
            int index = i;
            due(pairs[i], () -> x.at(index / 2, index % 2));
        }
        due(INDEX, () -> x.at(pairs.length / 2, 0));
    }

    static void dueIsPeeled(boolean isPeeled, PeelRibbons x) {
        due(isPeeled ? 0 : STATE, () -> x.before(0));
    }

    static void dueIsClipped(boolean isClipped, PeelRibbons x) {
        due(isClipped, () -> answerOf(() -> x.clipped(0)) != STATE);
    }

    static PeelRibbons fullLog(int slices, int side) {
        PeelRibbons x = new PeelRibbons(slices, side);
        for (int slice = 0; slice < slices; slice++) {
            fill(x, slice, 0, 0, side);
        }
        return x;
    }

    static void fill(PeelRibbons x, int slice, int left, int top, int side) {
        for (int dx = 0; dx < side; dx++) {
            for (int dy = 0; dy < side; dy++) {
                x.cell(slice, left + dx, top + dy, true);
            }
        }
    }

    /** A full log but for some cells: three numbers for each, its slice, x and y. */
    static PeelRibbons logWithout(int slices, int side, int... cells) {
        PeelRibbons x = fullLog(slices, side);
        for (int i = 0; i + 2 < cells.length; i += 3) {
            x.cell(cells[i], cells[i + 1], cells[i + 2], false);
        }
        return x;
    }

    /** One turn of radius 200, down to nothing. */
    static PeelRibbons ribbonOf1256() {
        PeelRibbons x = fullLog(1, 4);
        x.peel(200, 0);
        return x;
    }

    /** Something of every sort is told, PEELED and CLIPPED, and there is room for more of each. */
    static PeelRibbons busyLog() {
        PeelRibbons x = fullLog(2, 4);
        x.fault(144, 200, 2);
        x.fault(10, 150, 0);
        x.leaf(4, 7);
        x.leaf(1, 2);
        x.bars(0, 2, true);
        x.bars(1, 0, true);
        x.row(800, 5);
        x.row(300, -5);
        x.peel(60, 20);
        x.clip(300);
        return x;
    }

    /** All places are full: 16 faults, 6 leaves, 8 rows; PEELED and CLIPPED. */
    static PeelRibbons fullPlaces() {
        PeelRibbons x = fullLog(2, 4);
        for (int k = 0; k < 16; k++) {
            x.fault(k * 20, 200 - k * 10, k % 4);
        }
        for (int k = 0; k < 6; k++) {
            x.leaf(k + 1, k + 2);
            x.bars(k, k % 4, true);
        }
        for (int k = 0; k < 8; k++) {
            x.row(900 - k * 100, k);
        }
        x.peel(60, 20);
        x.clip(300);
        return x;
    }

    static Object answerOf(Callable<Object> call) {
        try {
            return call.call();
        } catch (Exception e) {
            return e.getClass();
        }
    }

    /**
     * All that calls can tell of a log of at most 2 by 4 by 4 cells. What is undone most easily
     * is looked at first. It changes the log, so it is the last that is done to it.
     */
    private static String picture(PeelRibbons x) {
        StringBuilder all = new StringBuilder();
        pictureRibbon(all, x);
        pictureFaults(all, x);
        pictureRows(all, x);
        pictureLog(all, x);
        pictureBars(all, x);
        pictureCells(all, x);
        return all.toString();
    }

    private static void pictureRibbon(StringBuilder all, PeelRibbons x) {
        for (int k = 0; k < 8; k++) {
            int number = k;
            add(all, () -> x.clipped(number));
            add(all, () -> x.at(number, 0));
            add(all, () -> x.at(number, 1));
            add(all, () -> x.before(number));
        }
    }

    private static void pictureFaults(StringBuilder all, PeelRibbons x) {
        for (int k = 0; k <= 16; k++) {
            int number = k;
            add(all, () -> x.unrolled(number));
        }
    }

    private static void pictureRows(StringBuilder all, PeelRibbons x) {
        for (int radius = 0; radius <= 1000; radius += 50) {
            int at = radius;
            add(all, () -> x.knife(at));
        }
    }

    private static void pictureLog(StringBuilder all, PeelRibbons x) {
        add(all, x::room);
        add(all, x::radius);
        for (int k = 0; k < 4; k++) {
            int number = k;
            add(all, () -> x.axis(number));
        }
    }

    /** Kinds of faults and worths of leaves are seen only by what is clipped. */
    private static void pictureBars(StringBuilder all, PeelRibbons x) {
        for (int leaf = 0; leaf <= 6; leaf++) {
            int number = leaf;
            add(all, () -> x.shrink(number, 1, 1));
            for (int kind = 0; kind < 4; kind++) {
                int barred = kind;
                add(all, () -> x.bars(number, barred, true));
            }
        }
        for (int kind = 0; kind < 4; kind++) {
            int barred = kind;
            add(all, () -> x.bars(0, barred, false));
            add(all, () -> x.clip(100));
            add(all, () -> x.clipped(0));
            add(all, () -> x.clipped(1));
        }
    }

    private static void pictureCells(StringBuilder all, PeelRibbons x) {
        for (int k = 0; k < 32; k++) {
            int number = k;
            add(all, () -> x.cell(number / 16, number / 4 % 4, number % 4, true));
        }
    }

    private static void add(StringBuilder all, Callable<Object> call) {
        all.append(answerOf(call)).append(' ');
    }

    private static String linesOfTest() {
        StringBuilder lines = new StringBuilder();
        for (StackTraceElement each : new Throwable().getStackTrace()) {
            if (each.getClassName().endsWith("Sentences")) {
                lines.append(' ').append(each.getLineNumber());
            }
        }
        return lines.toString();
    }
}
