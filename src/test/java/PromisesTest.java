import java.util.concurrent.Callable;

/** One part for each promise: ordinary inputs, the edges that the document names, wrong inputs. */
public final class PromisesTest {
    private static final Class<? extends Exception> INDEX = IndexOutOfBoundsException.class;
    private static final Class<? extends Exception> ARGUMENT = IllegalArgumentException.class;
    private static final Class<? extends Exception> STATE = IllegalStateException.class;

    private static int wrong = 0;
    private static String part = "";

    public static void main(String[] args) {
        newObject();
        cell();
        cellKeepsOrForgets();
        room();
        axis();
        axisOfOneSlice();
        radius();
        roomOf();
        roomOfInParts();
        peel();
        before();
        fault();
        unrolled();
        leaf();
        bars();
        clip();
        clipTies();
        clipFaults();
        clipMost();
        at();
        clipped();
        clippedIsForgotten();
        shrink();
        row();
        knife();
        System.out.println(wrong == 0 ? "all promises hold" : wrong + " answers are not as due");
        if (wrong != 0) {
            System.exit(1);
        }
    }

    private static void newObject() {
        part = "1 new object";
        due(-1, () -> PeelRibbons.NONE);
        dueSize(Integer.MIN_VALUE, Integer.MIN_VALUE, 1, 1);
        dueSize(0, 0, 1, 1);
        dueSize(1, 1, 1, 1);
        dueSize(3, 7, 3, 7);
        dueSize(4, 10, 4, 10);
        dueSize(5, 11, 4, 10);
        dueSize(Integer.MAX_VALUE, Integer.MAX_VALUE, 4, 10);
        PeelRibbons fresh = new PeelRibbons(2, 4);
        due(0, fresh::room);
        due(0, fresh::radius);
        due(PeelRibbons.NONE, () -> fresh.knife(0));
        dueThrows(STATE, () -> fresh.before(0));
        dueThrows(STATE, () -> fresh.clip(1));
        dueThrows(STATE, () -> fresh.clipped(0));
        dueThrows(STATE, () -> fresh.at(0, 0));
        dueThrows(INDEX, () -> fresh.unrolled(0));
        dueThrows(INDEX, () -> fresh.bars(0, 0, true));
    }

    private static void dueSize(int slices, int side, int dueSlices, int dueSide) {
        PeelRibbons x = new PeelRibbons(slices, side);
        due(true, () -> x.cell(dueSlices - 1, dueSide - 1, dueSide - 1, true));
        dueThrows(INDEX, () -> x.cell(dueSlices, 0, 0, true));
        dueThrows(INDEX, () -> x.cell(0, dueSide, 0, true));
        dueThrows(INDEX, () -> x.cell(0, 0, dueSide, true));
        due(0, () -> x.roomOf(dueSide, dueSide, dueSide, dueSide));
        dueThrows(INDEX, () -> x.roomOf(dueSide + 1, 0, 0, 0));
    }

    private static void cell() {
        part = "2 cell";
        PeelRibbons x = new PeelRibbons(2, 3);
        due(false, () -> x.cell(0, 1, 2, false));
        due(true, () -> x.cell(0, 1, 2, true));
        due(false, () -> x.cell(0, 1, 2, true));
        due(true, () -> x.cell(0, 2, 1, true));
        due(true, () -> x.cell(1, 1, 2, true));
        due(true, () -> x.cell(0, 1, 2, false));
        due(false, () -> x.cell(0, 1, 2, false));
        dueThrows(INDEX, () -> x.cell(-1, 0, 0, true));
        dueThrows(INDEX, () -> x.cell(2, 0, 0, true));
        dueThrows(INDEX, () -> x.cell(0, -1, 0, true));
        dueThrows(INDEX, () -> x.cell(0, 3, 0, true));
        dueThrows(INDEX, () -> x.cell(0, 0, -1, true));
        dueThrows(INDEX, () -> x.cell(0, 0, 3, true));
        dueThrows(INDEX, () -> x.cell(Integer.MAX_VALUE, Integer.MIN_VALUE, Integer.MAX_VALUE, true));
        due(true, () -> x.cell(0, 0, 0, true));
    }

    private static void cellKeepsOrForgets() {
        part = "2 cell forgets what was peeled";
        PeelRibbons x = fullLog(2, 4);
        x.peel(10, 0);
        x.clip(10);
        due(false, () -> x.cell(0, 0, 0, true));
        dueThrows(INDEX, () -> x.cell(2, 0, 0, false));
        due(0, () -> x.before(0));
        due(0, () -> x.clipped(0));
        due(true, () -> x.cell(0, 0, 0, false));
        dueThrows(STATE, () -> x.before(0));
        dueThrows(STATE, () -> x.before(-1));
        dueThrows(STATE, () -> x.clip(10));
        dueThrows(STATE, () -> x.clipped(0));
        dueThrows(STATE, () -> x.clipped(9));
        dueThrows(STATE, () -> x.at(0, 0));
        due(true, () -> x.cell(0, 0, 0, true));
        dueThrows(STATE, () -> x.before(0));
    }

    private static void room() {
        part = "3 room";
        due(4, () -> fullLog(1, 4).room());
        due(4, () -> fullLog(2, 4).room());
        due(16, () -> fullLog(3, 4).room());
        due(36, () -> fullLog(4, 4).room());
        due(225, () -> fullLog(4, 10).room());
        due(0, () -> fullLog(1, 1).room());
        due(1, () -> fullLog(1, 2).room());
        PeelRibbons x = fullLog(2, 4);
        x.cell(1, 2, 2, false);
        due(1, x::room);
        x.cell(1, 2, 2, true);
        due(4, x::room);
        PeelRibbons bent = fullLog(3, 6);
        bent.cell(1, 3, 3, false);
        // at slice 1 the axis lies at 4, 4, and the cell that is out begins at 6, 6
        due(8, bent::room);
    }

    private static void axis() {
        part = "4 axis";
        dueAxis(fullLog(2, 4), 2, 2, 2, 2);
        dueAxis(fullLog(2, 5), 2, 2, 2, 2);
        dueAxis(fullLog(4, 10), 5, 5, 5, 5);
        dueAxis(new PeelRibbons(4, 10), 0, 0, 0, 0);
        PeelRibbons slanted = new PeelRibbons(2, 6);
        fill(slanted, 0, 0, 2, 2);
        fill(slanted, 1, 4, 3, 2);
        dueAxis(slanted, 1, 3, 5, 4);
        PeelRibbons x = fullLog(1, 4);
        dueThrows(INDEX, () -> x.axis(-1));
        dueThrows(INDEX, () -> x.axis(4));
        dueThrows(INDEX, () -> x.axis(Integer.MIN_VALUE));
    }

    private static void axisOfOneSlice() {
        part = "4 axis of one slice";
        dueAxis(fullLog(1, 6), 3, 3, 0, 0);
    }

    private static void radius() {
        part = "5 radius";
        due(500, () -> fullLog(4, 10).radius());
        due(200, () -> fullLog(1, 5).radius());
        due(0, () -> fullLog(4, 1).radius());
        due(0, () -> new PeelRibbons(3, 10).radius());
        due(100, () -> fullLog(4, 2).radius());
        // a room of 8 squares of a cell: the root of 80000 is 282.8
        PeelRibbons notched = fullLog(1, 6);
        notched.cell(0, 0, 0, false);
        due(8, notched::room);
        due(282, notched::radius);
        PeelRibbons small = fullLog(1, 4);
        small.cell(0, 0, 0, false);
        due(141, small::radius);
        // a room of 8 squares of half a cell: the same root, by 2
        PeelRibbons bent = fullLog(3, 6);
        bent.cell(1, 3, 3, false);
        due(141, bent::radius);
    }

    private static void roomOf() {
        part = "6 roomOf";
        PeelRibbons x = fullLog(2, 4);
        due(4, () -> x.roomOf(2, 2, 2, 2));
        due(1, () -> x.roomOf(1, 2, 2, 2));
        due(1, () -> x.roomOf(2, 2, 2, 3));
        due(0, () -> x.roomOf(0, 0, 4, 4));
        due(0, () -> x.roomOf(4, 4, 4, 4));
        x.cell(1, 2, 2, false);
        due(0, () -> x.roomOf(2, 2, 2, 2));
        due(1, () -> x.roomOf(2, 2, 1, 2));
        due(1, () -> x.roomOf(2, 2, 1, 1));
        due(0, () -> x.roomOf(0, 2, 1, 2));
        dueThrows(INDEX, () -> x.roomOf(-1, 0, 0, 0));
        dueThrows(INDEX, () -> x.roomOf(5, 0, 0, 0));
        dueThrows(INDEX, () -> x.roomOf(0, -1, 0, 0));
        dueThrows(INDEX, () -> x.roomOf(0, 5, 0, 0));
        dueThrows(INDEX, () -> x.roomOf(0, 0, -1, 0));
        dueThrows(INDEX, () -> x.roomOf(0, 0, 5, 0));
        dueThrows(INDEX, () -> x.roomOf(0, 0, 0, -1));
        dueThrows(INDEX, () -> x.roomOf(0, 0, 0, 5));
        PeelRibbons one = fullLog(1, 4);
        due(4, () -> one.roomOf(2, 2, 0, 4));
        dueThrows(INDEX, () -> one.roomOf(2, 2, 0, 5));
    }

    private static void roomOfInParts() {
        part = "6 roomOf in parts";
        PeelRibbons x = fullLog(4, 6);
        due(81, () -> x.roomOf(3, 3, 3, 3));
        due(36, () -> x.roomOf(2, 3, 4, 3));
        // at slice 1 the axis 3, 3, 4, 3 lies at 10, 9; a cell out at 5, 3 begins at 15, 9
        x.cell(1, 5, 3, false);
        due(25, () -> x.roomOf(3, 3, 4, 3));
        // a cell out at 4, 4 begins at 12, 12: its corner is 2 and 3 away
        x.cell(1, 4, 4, false);
        due(13, () -> x.roomOf(3, 3, 4, 3));
    }

    private static void peel() {
        part = "7 peel";
        PeelRibbons x = fullLog(2, 4);
        due(20, () -> x.peel(10, 0));
        due(0, () -> x.before(0));
        due(19, () -> x.peel(10, 10));
        due(18, () -> x.peel(10, 11));
        due(0, () -> x.peel(10, 200));
        due(0, () -> x.peel(10, 201));
        due(0, () -> x.peel(1, 1000));
        due(200, () -> x.peel(1, 0));
        due(0, () -> x.peel(1000, 0));
        due(1, () -> x.peel(200, 0));
        due(199, () -> x.peel(1, 1));
        x.clip(1);
        dueThrows(ARGUMENT, () -> x.peel(0, 0));
        dueThrows(ARGUMENT, () -> x.peel(1001, 0));
        dueThrows(ARGUMENT, () -> x.peel(1, -1));
        dueThrows(ARGUMENT, () -> x.peel(1, 1001));
        due(2000, () -> x.clipped(2));
        due(1256, () -> x.before(1));
        due(199, () -> x.peel(1, 1));
        dueThrows(STATE, () -> x.clipped(2));
        PeelRibbons empty = new PeelRibbons(1, 1);
        due(0, () -> empty.peel(1, 0));
        due(0, () -> empty.before(0));
    }

    private static void before() {
        part = "8 before";
        PeelRibbons x = fullLog(2, 4);
        dueThrows(STATE, () -> x.before(0));
        dueThrows(STATE, () -> x.before(-1));
        x.peel(60, 20);
        due(0, () -> x.before(0));
        due(1256, () -> x.before(1));
        due(2136, () -> x.before(2));
        due(2638, () -> x.before(3));
        dueThrows(INDEX, () -> x.before(4));
        dueThrows(INDEX, () -> x.before(-1));
        dueThrows(INDEX, () -> x.before(Integer.MAX_VALUE));
        PeelRibbons greatest = fullLog(4, 10);
        due(500, () -> greatest.peel(1, 0));
        due((int) (125250L * 710 / 113), () -> greatest.before(500));
        dueThrows(INDEX, () -> greatest.before(501));
    }

    private static void fault() {
        part = "9 fault";
        PeelRibbons x = fullLog(2, 4);
        x.peel(10, 0);
        x.clip(10);
        dueThrows(ARGUMENT, () -> x.fault(-1, 0, 0));
        dueThrows(ARGUMENT, () -> x.fault(360, 0, 0));
        dueThrows(ARGUMENT, () -> x.fault(0, -1, 0));
        dueThrows(ARGUMENT, () -> x.fault(0, 1001, 0));
        dueThrows(ARGUMENT, () -> x.fault(0, 0, -1));
        dueThrows(ARGUMENT, () -> x.fault(0, 0, 4));
        due(0, () -> x.clipped(0));
        due(0, () -> x.fault(0, 0, 0));
        dueThrows(STATE, () -> x.clipped(0));
        due(0, () -> x.before(0));
        due(1, () -> x.fault(359, 1000, 3));
        for (int k = 2; k < 16; k++) {
            int number = k;
            due(number, () -> x.fault(number, number, number % 4));
        }
        x.clip(10);
        dueThrows(STATE, () -> x.fault(0, 0, 0));
        dueThrows(ARGUMENT, () -> x.fault(360, 0, 0));
        due(0, () -> x.clipped(0));
        dueThrows(INDEX, () -> x.unrolled(16));
    }

    private static void unrolled() {
        part = "10 unrolled";
        PeelRibbons x = fullLog(2, 4);
        dueThrows(INDEX, () -> x.unrolled(0));
        x.fault(180, 200, 0);
        x.fault(0, 201, 0);
        x.fault(359, 141, 0);
        x.fault(90, 140, 0);
        x.fault(1, 21, 0);
        x.fault(0, 20, 0);
        dueThrows(STATE, () -> x.unrolled(0));
        dueThrows(INDEX, () -> x.unrolled(6));
        x.peel(60, 20);
        due(628, () -> x.unrolled(0));
        due(PeelRibbons.NONE, () -> x.unrolled(1));
        due(1256 * 359 / 360, () -> x.unrolled(2));
        due(1256 + 879 * 90 / 360, () -> x.unrolled(3));
        due(2136 + 502 / 360, () -> x.unrolled(4));
        due(PeelRibbons.NONE, () -> x.unrolled(5));
        dueThrows(INDEX, () -> x.unrolled(6));
        dueThrows(INDEX, () -> x.unrolled(-1));
        // 21 is still above the core, but in no whole turn
        x.peel(70, 0);
        due(1256, () -> x.before(1));
        due(1256 * 90 / 360, () -> x.unrolled(3));
        due(PeelRibbons.NONE, () -> x.unrolled(4));
        x.cell(0, 0, 0, false);
        dueThrows(STATE, () -> x.unrolled(0));
        dueThrows(INDEX, () -> x.unrolled(6));
    }

    private static void leaf() {
        part = "11 leaf";
        PeelRibbons x = fullLog(2, 4);
        x.peel(10, 0);
        x.clip(10);
        dueThrows(ARGUMENT, () -> x.leaf(0, 0));
        dueThrows(ARGUMENT, () -> x.leaf(501, 0));
        dueThrows(ARGUMENT, () -> x.leaf(1, -1));
        dueThrows(ARGUMENT, () -> x.leaf(1, 1000001));
        due(0, () -> x.clipped(0));
        due(0, () -> x.leaf(500, 1000000));
        dueThrows(STATE, () -> x.clipped(0));
        due(0, () -> x.before(0));
        due(1, () -> x.leaf(1, 0));
        for (int k = 2; k < 6; k++) {
            int number = k;
            due(number, () -> x.leaf(number, number));
        }
        x.clip(1000);
        dueThrows(STATE, () -> x.leaf(1, 1));
        dueThrows(ARGUMENT, () -> x.leaf(0, 1));
        due(13, () -> x.clipped(2));
        due(500, () -> x.shrink(0, 1, 1));
        due(5, () -> x.shrink(5, 1, 1));
    }

    private static void bars() {
        part = "12 bars";
        PeelRibbons x = fullLog(2, 4);
        x.leaf(1, 1);
        x.leaf(1, 1);
        due(false, () -> x.bars(0, 0, false));
        due(true, () -> x.bars(0, 0, true));
        due(false, () -> x.bars(0, 0, true));
        due(true, () -> x.bars(0, 3, true));
        due(true, () -> x.bars(1, 0, true));
        x.peel(10, 0);
        x.clip(10);
        due(false, () -> x.bars(0, 0, true));
        due(false, () -> x.bars(0, 1, false));
        dueThrows(INDEX, () -> x.bars(-1, 0, true));
        dueThrows(INDEX, () -> x.bars(2, 0, true));
        dueThrows(INDEX, () -> x.bars(0, -1, true));
        dueThrows(INDEX, () -> x.bars(0, 4, true));
        dueThrows(INDEX, () -> x.bars(0, 32, true));
        due(1319, () -> x.clipped(0));
        due(true, () -> x.bars(0, 0, false));
        dueThrows(STATE, () -> x.clipped(0));
        due(0, () -> x.before(0));
        due(false, () -> x.bars(0, 0, false));
        due(false, () -> x.bars(0, 3, true));
        due(false, () -> x.bars(1, 0, true));
    }

    private static void clip() {
        part = "13 clip";
        PeelRibbons x = ribbonOf1256();
        dueThrows(ARGUMENT, () -> x.clip(0));
        dueThrows(ARGUMENT, () -> x.clip(1001));
        due(0, () -> x.clip(100));
        dueClipped(x, 0, 12, 12);
        x.leaf(5, 10);
        x.leaf(4, 7);
        due(3, () -> x.clip(100));
        dueClipped(x, 21, 0, 12);
        due(2, () -> x.clip(123));
        dueClipped(x, 20, 0, 10);
        due(2, () -> x.clip(114));
        dueClipped(x, 20, 1, 11);
        due(251, () -> x.clip(1));
        dueClipped(x, 2510, 1, 1256);
        due(0, () -> x.clip(1000));
        dueClipped(x, 0, 1, 1);
        dueThrows(ARGUMENT, () -> x.clip(0));
        dueClipped(x, 0, 1, 1);
        PeelRibbons raw = fullLog(2, 4);
        dueThrows(STATE, () -> raw.clip(1));
        dueThrows(ARGUMENT, () -> raw.clip(0));
    }

    private static void clipTies() {
        part = "13 clip of equal worth";
        // of equal worths the fewest steps of waste, by a leaf that is worth nothing
        PeelRibbons idle = ribbonOf1256();
        idle.leaf(7, 5);
        idle.leaf(2, 0);
        due(3, () -> idle.clip(100));
        dueClipped(idle, 5, 1, 12);
        dueLeaves(idle, 0, 0, 1, 7, 1, 9);
        // a leaf before waste, and a leaf of a lesser number before another
        PeelRibbons alike = ribbonOf1256();
        alike.leaf(5, 3);
        alike.leaf(5, 3);
        due(2, () -> alike.clip(100));
        dueLeaves(alike, 0, 0, 0, 5);
        // the lesser number first, though the other one is broader
        PeelRibbons mixed = ribbonOf1256();
        mixed.leaf(4, 4);
        mixed.leaf(8, 8);
        due(3, () -> mixed.clip(100));
        dueLeaves(mixed, 0, 0, 0, 4, 0, 8);
        PeelRibbons turned = ribbonOf1256();
        turned.leaf(8, 8);
        turned.leaf(4, 4);
        due(2, () -> turned.clip(100));
        dueLeaves(turned, 0, 0, 1, 8);
        // more worth goes before less waste
        PeelRibbons rich = ribbonOf1256();
        rich.leaf(12, 6);
        rich.leaf(11, 7);
        due(1, () -> rich.clip(100));
        dueClipped(rich, 7, 1, 12);
        dueLeaves(rich, 1, 0);
    }

    private static void clipFaults() {
        part = "13 clip round faults";
        PeelRibbons x = ribbonOf1256();
        x.leaf(4, 4);
        x.leaf(1, 0);
        x.fault(144, 200, 2);
        due(502, () -> x.unrolled(0));
        due(3, () -> x.clip(100));
        dueLeaves(x, 0, 0, 0, 4, 0, 8);
        x.bars(0, 1, true);
        due(3, () -> x.clip(100));
        x.bars(0, 2, true);
        // the fault lies in step 5: a leaf may end at it and begin behind it
        due(6, () -> x.clip(100));
        dueClipped(x, 8, 0, 12);
        dueLeaves(x, 0, 0, 1, 4, 1, 5, 0, 6, 1, 10, 1, 11);
        x.bars(1, 2, true);
        due(5, () -> x.clip(100));
        dueClipped(x, 8, 1, 12);
        dueLeaves(x, 0, 0, 1, 4, 0, 6, 1, 10, 1, 11);
        // a fault that is not in the ribbon bars nothing
        PeelRibbons beside = ribbonOf1256();
        beside.leaf(4, 4);
        beside.bars(0, 0, true);
        beside.fault(0, 201, 0);
        beside.fault(0, 0, 0);
        due(3, () -> beside.clip(100));
        // nor does one behind the last whole step
        PeelRibbons behind = ribbonOf1256();
        behind.leaf(1, 1);
        behind.bars(0, 0, true);
        behind.fault(359, 1, 0);
        due(1252, () -> behind.unrolled(0));
        due(12, () -> behind.clip(100));
        dueClipped(behind, 12, 0, 12);
        // nor does one in the step to which another peeling had unrolled it
        PeelRibbons moved = ribbonOf1256();
        moved.leaf(1, 1);
        moved.bars(0, 0, true);
        moved.fault(0, 100, 0);
        due(11, () -> moved.clip(100));
        due(1, () -> moved.at(0, 1));
        moved.peel(50, 0);
        due(2199, () -> moved.unrolled(0));
        due(30, () -> moved.clip(100));
        due(0, () -> moved.at(0, 1));
        due(20, () -> moved.at(20, 1));
        due(22, () -> moved.at(21, 1));
        // a clipping without faults follows one with them
        PeelRibbons again = ribbonOf1256();
        again.leaf(12, 1);
        again.bars(0, 0, true);
        again.fault(180, 100, 0);
        due(0, () -> again.clip(100));
        again.bars(0, 0, false);
        due(1, () -> again.clip(100));
    }

    private static void clipMost() {
        part = "13 clip of the longest ribbon";
        PeelRibbons x = fullLog(4, 10);
        x.peel(1, 0);
        x.leaf(1, 1000000);
        due(2000, () -> x.clip(1));
        dueClipped(x, 2000000000, 0, 2000);
        due(1999, () -> x.at(1999, 1));
        dueThrows(INDEX, () -> x.at(2000, 1));
        due(2000, () -> x.clip(393));
        due(1997, () -> x.clip(394));
        dueClipped(x, 1997000000, 0, 1997);
        // of faults in the first step that is cut off and in the last one that is not
        x.bars(0, 0, true);
        x.fault(145, 494, 0);
        due(20004, () -> x.unrolled(0));
        due(2000, () -> x.clip(10));
        x.fault(144, 494, 0);
        due(19996, () -> x.unrolled(1));
        due(1999, () -> x.clip(10));
        dueClipped(x, 1999000000, 1, 2000);
    }

    private static void at() {
        part = "14 at";
        PeelRibbons x = ribbonOf1256();
        dueThrows(STATE, () -> x.at(0, 0));
        dueThrows(STATE, () -> x.at(-1, 5));
        x.leaf(5, 10);
        x.leaf(4, 7);
        x.clip(110);
        dueLeaves(x, 0, 0, 0, 5);
        dueThrows(INDEX, () -> x.at(2, 0));
        dueThrows(INDEX, () -> x.at(-1, 0));
        dueThrows(INDEX, () -> x.at(0, -1));
        dueThrows(INDEX, () -> x.at(0, 2));
        x.clip(1000);
        dueThrows(INDEX, () -> x.at(0, 0));
    }

    private static void clipped() {
        part = "15 clipped";
        PeelRibbons x = ribbonOf1256();
        dueThrows(STATE, () -> x.clipped(0));
        dueThrows(STATE, () -> x.clipped(3));
        x.leaf(5, 10);
        x.clip(100);
        due(20, () -> x.clipped(0));
        due(2, () -> x.clipped(1));
        due(12, () -> x.clipped(2));
        dueThrows(INDEX, () -> x.clipped(-1));
        dueThrows(INDEX, () -> x.clipped(3));
    }

    private static void clippedIsForgotten() {
        part = "15 clipped hangs on what was told";
        PeelRibbons x = ribbonOf1256();
        x.leaf(5, 10);
        x.clip(100);
        x.row(10, 1);
        x.shrink(0, 1, 2);
        x.roomOf(1, 1, 1, 1);
        due(20, () -> x.clipped(0));
        x.fault(0, 0, 0);
        dueThrows(STATE, () -> x.clipped(0));
        x.clip(100);
        x.leaf(1, 1);
        dueThrows(STATE, () -> x.at(0, 0));
        x.clip(100);
        x.bars(0, 0, true);
        dueThrows(STATE, () -> x.clipped(0));
        x.clip(100);
        x.peel(200, 0);
        dueThrows(STATE, () -> x.clipped(0));
        x.clip(100);
        x.cell(0, 0, 0, false);
        dueThrows(STATE, () -> x.clipped(0));
        x.peel(200, 0);
        dueThrows(STATE, () -> x.clipped(0));
    }

    private static void shrink() {
        part = "16 shrink";
        PeelRibbons x = new PeelRibbons(1, 1);
        dueThrows(INDEX, () -> x.shrink(0, 1, 1));
        x.leaf(500, 1);
        x.leaf(7, 1);
        due(500, () -> x.shrink(0, 1000, 1000));
        due(499, () -> x.shrink(0, 999, 1000));
        due(0, () -> x.shrink(0, 0, 1));
        due(6, () -> x.shrink(1, 95, 100));
        due(2, () -> x.shrink(1, 1, 3));
        dueThrows(ARGUMENT, () -> x.shrink(0, 0, 0));
        dueThrows(ARGUMENT, () -> x.shrink(0, -1, 1));
        dueThrows(ARGUMENT, () -> x.shrink(0, 2, 1));
        dueThrows(ARGUMENT, () -> x.shrink(0, 1, 1001));
        dueThrows(ARGUMENT, () -> x.shrink(0, -1, -1));
        dueThrows(INDEX, () -> x.shrink(2, 0, 0));
        dueThrows(INDEX, () -> x.shrink(-1, 1, 1));
    }

    private static void row() {
        part = "17 row";
        PeelRibbons x = new PeelRibbons(1, 1);
        dueThrows(ARGUMENT, () -> x.row(-1, 0));
        dueThrows(ARGUMENT, () -> x.row(1001, 0));
        dueThrows(ARGUMENT, () -> x.row(0, -101));
        dueThrows(ARGUMENT, () -> x.row(0, 101));
        due(true, () -> x.row(1000, 100));
        dueThrows(ARGUMENT, () -> x.row(1000, 0));
        due(true, () -> x.row(999, -100));
        dueThrows(ARGUMENT, () -> x.row(1000, 0));
        for (int radius = 6; radius >= 1; radius--) {
            int below = radius;
            due(true, () -> x.row(below, below));
        }
        due(false, () -> x.row(0, 0));
        dueThrows(ARGUMENT, () -> x.row(1, 0));
        dueThrows(ARGUMENT, () -> x.row(0, 101));
        due(1001, () -> x.knife(0));
        due(1001, () -> x.knife(1));
    }

    private static void knife() {
        part = "18 knife";
        PeelRibbons x = new PeelRibbons(1, 1);
        due(PeelRibbons.NONE, () -> x.knife(1000));
        x.row(500, -100);
        x.row(200, 0);
        x.row(0, 100);
        due(PeelRibbons.NONE, () -> x.knife(1000));
        due(PeelRibbons.NONE, () -> x.knife(501));
        due(900, () -> x.knife(500));
        due(900, () -> x.knife(201));
        due(1000, () -> x.knife(200));
        due(1000, () -> x.knife(1));
        due(1100, () -> x.knife(0));
        dueThrows(ARGUMENT, () -> x.knife(-1));
        dueThrows(ARGUMENT, () -> x.knife(1001));
    }

    private static PeelRibbons fullLog(int slices, int side) {
        PeelRibbons x = new PeelRibbons(slices, side);
        for (int slice = 0; slice < slices; slice++) {
            fill(x, slice, 0, 0, side);
        }
        return x;
    }

    private static void fill(PeelRibbons x, int slice, int left, int top, int side) {
        for (int dx = 0; dx < side; dx++) {
            for (int dy = 0; dy < side; dy++) {
                x.cell(slice, left + dx, top + dy, true);
            }
        }
    }

    /** One turn of radius 200, down to nothing. */
    private static PeelRibbons ribbonOf1256() {
        PeelRibbons x = fullLog(1, 4);
        x.peel(200, 0);
        due(1256, () -> x.before(1));
        return x;
    }

    private static void dueAxis(PeelRibbons x, int... numbers) {
        for (int k = 0; k < 4; k++) {
            int number = k;
            due(numbers[k], () -> x.axis(number));
        }
    }

    private static void dueClipped(PeelRibbons x, int worth, int waste, int steps) {
        due(worth, () -> x.clipped(0));
        due(waste, () -> x.clipped(1));
        due(steps, () -> x.clipped(2));
    }

    /** Pairs of a leaf and its first step. */
    private static void dueLeaves(PeelRibbons x, int... pairs) {
        for (int i = 0; i < pairs.length; i++) {
            int index = i;
            due(pairs[i], () -> x.at(index / 2, index % 2));
        }
        dueThrows(INDEX, () -> x.at(pairs.length / 2, 0));
    }

    private static void due(Object want, Callable<Object> call) {
        Object got;
        try {
            got = call.call();
        } catch (Exception e) {
            got = e.getClass().getName();
        }
        if (!want.equals(got)) {
            tell("answered " + got + ", due is " + want);
        }
    }

    private static void dueThrows(Class<? extends Exception> want, Callable<Object> call) {
        Object got;
        try {
            got = call.call();
        } catch (Exception e) {
            got = e.getClass();
        }
        if (got != want) {
            tell("answered " + got + ", due is " + want);
        }
    }

    private static void tell(String text) {
        wrong++;
        StackTraceElement[] trace = new Throwable().getStackTrace();
        StringBuilder lines = new StringBuilder();
        for (int i = 2; i < trace.length - 1; i++) {
            lines.append(' ').append(trace[i].getLineNumber());
        }
        System.out.println("promise " + part + ", line" + lines + ": " + text);
    }
}
