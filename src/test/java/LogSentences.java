/** Promises 1 to 6: the slices and their cells, ROOM, THE AXIS and RADIUS. */
final class LogSentences extends Due {
    private LogSentences() {
    }

    @Sentence(promise = 1, says = "SLICES the nearest of 1 .. 4")
    static void slicesAreTheNearest() {
        dueSlices(1, LEAST, -1, 0, 1);
        dueSlices(2, 2);
        dueSlices(3, 3);
        dueSlices(4, 4, 5, MOST);
    }

    private static void dueSlices(int want, int... told) {
        for (int slices : told) {
            PeelRibbons x = new PeelRibbons(slices, 3);
            due(true, () -> x.cell(want - 1, 0, 0, true));
            due(INDEX, () -> x.cell(want, 0, 0, true));
        }
    }

    @Sentence(promise = 1, says = "SIDE of 1 .. 10")
    static void sideIsTheNearest() {
        dueSide(1, LEAST, -1, 0, 1);
        dueSide(2, 2);
        dueSide(9, 9);
        dueSide(10, 10, 11, MOST);
    }

    private static void dueSide(int want, int... told) {
        for (int side : told) {
            PeelRibbons x = new PeelRibbons(2, side);
            due(true, () -> x.cell(1, want - 1, want - 1, true));
            due(INDEX, () -> x.cell(1, want, 0, true));
            due(INDEX, () -> x.cell(1, 0, want, true));
            due(0, () -> x.roomOf(want, want, want, want));
            due(INDEX, () -> x.roomOf(want + 1, 0, 0, 0));
        }
    }

    @Sentence(promise = 1, says = "each IN the log or not (not at first)")
    static void noCellIsInAtFirst() {
        PeelRibbons x = new PeelRibbons(2, 3);
        due(0, x::room);
        for (int k = 0; k < 18; k++) {
            int number = k;
            due(false, () -> x.cell(number / 9, number / 3 % 3, number % 3, false));
        }
    }

    @Sentence(promise = 1, says = "A new object")
    static void nothingIsToldAtFirst() {
        PeelRibbons x = new PeelRibbons(2, 4);
        due(STATE, () -> x.before(0));
        due(INDEX, () -> x.unrolled(0));
        due(INDEX, () -> x.bars(0, 0, true));
        due(INDEX, () -> x.shrink(0, 1, 1));
        due(STATE, () -> x.clip(1));
        due(STATE, () -> x.at(0, 0));
        due(STATE, () -> x.clipped(0));
        due(-1, () -> x.knife(0));
        due(0, () -> x.fault(0, 0, 0));
        due(0, () -> x.leaf(1, 0));
        due(true, () -> x.row(1000, 0));
    }

    @Sentence(promise = 2, says = "A cell is IN or not: whether that is new.")
    static void cellTellsWhetherItIsNew() {
        PeelRibbons x = new PeelRibbons(2, 3);
        due(true, () -> x.cell(0, 1, 2, true));
        due(false, () -> x.cell(0, 1, 2, true));
        due(true, () -> x.cell(0, 2, 1, true));
        due(true, () -> x.cell(1, 1, 2, true));
        due(true, () -> x.cell(0, 1, 2, false));
        due(false, () -> x.cell(0, 1, 2, false));
        due(false, () -> x.cell(1, 1, 2, true));
    }

    @Sentence(promise = 2, says = "there is no such slice, cell")
    static void cellOfNoSuchSlice() {
        PeelRibbons x = new PeelRibbons(2, 4);
        due(true, () -> x.cell(0, 1, 1, true));
        due(true, () -> x.cell(1, 1, 1, true));
        for (int slice : new int[] {LEAST, -1, 2, MOST}) {
            dueKept(INDEX, Due::busyLog, log -> log.cell(slice, 0, 0, false));
        }
    }

    @Sentence(promise = 2, says = "SLICES 0 .. n - 1 have SIDE by SIDE cells (x to the right, y down)")
    static void cellOfNoSuchPlace() {
        PeelRibbons x = new PeelRibbons(1, 4);
        due(true, () -> x.cell(0, 0, 0, true));
        due(true, () -> x.cell(0, 3, 0, true));
        due(true, () -> x.cell(0, 0, 3, true));
        due(true, () -> x.cell(0, 3, 3, true));
        for (int beside : new int[] {LEAST, -1, 4, MOST}) {
            dueKept(INDEX, Due::busyLog, log -> log.cell(1, beside, 1, false));
            dueKept(INDEX, Due::busyLog, log -> log.cell(0, 1, beside, false));
        }
    }

    @Sentence(promise = 2, says = "(Nothing is PEELED any more, if so.)")
    static void newCellUndoesPeeled() {
        PeelRibbons x = busyLog();
        due(true, () -> x.cell(1, 3, 3, false));
        dueIsPeeled(false, x);
        x.peel(60, 20);
        dueIsPeeled(true, x);
        due(true, () -> x.cell(1, 3, 3, true));
        dueIsPeeled(false, x);
    }

    @Sentence(promise = 2, says = "(Nothing is PEELED any more, if so.)")
    static void cellToldAgainKeepsPeeled() {
        dueKept(false, Due::busyLog, log -> log.cell(0, 0, 0, true));
        PeelRibbons empty = new PeelRibbons(1, 2);
        empty.peel(1, 0);
        empty.clip(1);
        due(false, () -> empty.cell(0, 0, 0, false));
        dueIsPeeled(true, empty);
        dueIsClipped(true, empty);
    }

    @Sentence(promise = 2, says = "or was since something that it hangs on was told")
    static void newCellUndoesClippedToo() {
        PeelRibbons x = busyLog();
        x.cell(0, 0, 0, false);
        dueIsClipped(false, x);
        x.cell(0, 0, 0, true);
        dueIsClipped(false, x);
        x.peel(60, 20);
        dueIsClipped(false, x);
        x.clip(300);
        dueIsClipped(true, x);
    }

    @Sentence(promise = 3, says = "all beside the cells is not IN")
    static void roomEndsBesideTheCells() {
        due(0, fullLog(1, 1)::room);
        due(1, fullLog(1, 2)::room);
        due(1, fullLog(1, 3)::room);
        due(25, fullLog(1, 10)::room);
    }

    @Sentence(promise = 3, says = "N is n - 1, or 1 for one slice.")
    static void roomIsInSquaresOfParts() {
        due(4, fullLog(1, 4)::room);
        due(4, fullLog(2, 4)::room);
        due(16, fullLog(3, 4)::room);
        due(36, fullLog(4, 4)::room);
        due(225, fullLog(4, 10)::room);
    }

    @Sentence(promise = 3, says = "THE AXIS has the greatest ROOM")
    static void roomIsTheGreatest() {
        due(0, new PeelRibbons(4, 10)::room);
        PeelRibbons x = fullLog(2, 4);
        due(4, x::room);
        x.cell(1, 2, 2, false);
        due(1, x::room);
        x.cell(1, 2, 2, true);
        due(4, x::room);
        // at slice 1 the best axis lies at 4, 4, and the cell that is out begins at 6, 6
        due(8, logWithout(3, 6, 1, 3, 3)::room);
    }

    @Sentence(promise = 3, says = "over all slices")
    static void roomNeedsEverySlice() {
        PeelRibbons x = new PeelRibbons(3, 2);
        fill(x, 0, 0, 0, 2);
        fill(x, 1, 0, 0, 2);
        due(0, x::room);
        fill(x, 2, 0, 0, 2);
        due(4, x::room);
    }

    @Sentence(promise = 4, says = "Of THE AXIS: x0 (k = 0), y0 (1), x1 (2), y1 (3).")
    static void axisTellsFourNumbers() {
        PeelRibbons slanted = new PeelRibbons(2, 6);
        fill(slanted, 0, 0, 2, 2);
        fill(slanted, 1, 4, 3, 2);
        dueAxis(slanted, 1, 3, 5, 4);
        dueAxis(fullLog(4, 10), 5, 5, 5, 5);
    }

    @Sentence(promise = 4, says = "IndexOutOfBoundsException.")
    static void axisHasNoOtherNumber() {
        for (int k : new int[] {LEAST, -1, 4, MOST}) {
            dueKept(INDEX, Due::busyLog, log -> log.axis(k));
        }
    }

    @Sentence(promise = 4, says = "of several the first by x0, then y0, x1, y1")
    static void axisIsTheFirstOfSeveral() {
        dueAxis(fullLog(2, 3), 1, 1, 1, 1);
        dueAxis(fullLog(4, 5), 2, 2, 2, 2);
    }

    @Sentence(promise = 4, says = "of several the first by x0, then y0, x1, y1")
    static void axisGoesByX0BeforeY0() {
        // slice 0 leaves the corners 1, 2 and 2, 1
        dueAxis(logWithout(2, 3, 0, 0, 0, 0, 2, 2), 1, 2, 1, 1);
    }

    @Sentence(promise = 4, says = "of several the first by x0, then y0, x1, y1")
    static void axisGoesByY0BeforeX1() {
        PeelRibbons x = logWithout(3, 3, 1, 0, 0, 1, 2, 1, 2, 2, 2, 2, 0, 2);
        due(1, () -> x.roomOf(1, 1, 2, 1));
        due(1, () -> x.roomOf(1, 2, 1, 1));
        due(1, x::room);
        dueAxis(x, 1, 1, 2, 1);
    }

    @Sentence(promise = 4, says = "of several the first by x0, then y0, x1, y1")
    static void axisGoesByX1BeforeY1() {
        // slice 1 leaves the corners 1, 2 and 2, 1
        dueAxis(logWithout(2, 3, 1, 0, 0, 1, 2, 2), 1, 1, 1, 2);
    }

    @Sentence(promise = 4, says = "of several the first by x0, then y0, x1, y1")
    static void axisWithoutRoomIsTheFirstOfAll() {
        dueAxis(new PeelRibbons(4, 10), 0, 0, 0, 0);
        PeelRibbons bare = new PeelRibbons(2, 5);
        bare.cell(0, 3, 3, true);
        bare.cell(1, 3, 3, true);
        dueAxis(bare, 0, 0, 0, 0);
        PeelRibbons bared = fullLog(1, 2);
        dueAxis(bared, 1, 1, 0, 0);
        bared.cell(0, 0, 0, false);
        dueAxis(bared, 0, 0, 0, 0);
    }

    @Sentence(promise = 4, says = "of several the first by x0, then y0, x1, y1")
    static void axisOfOneSliceHasTheFirstEnd() {
        dueAxis(fullLog(1, 6), 3, 3, 0, 0);
    }

    @Sentence(promise = 5, says = "the greatest whole number whose square is not above ROOM * 10000")
    static void radiusIsARootCutOff() {
        due(0, new PeelRibbons(1, 10)::radius);
        due(0, fullLog(1, 1)::radius);
        due(100, fullLog(1, 2)::radius);
        due(500, fullLog(1, 10)::radius);
        // rooms of 2 and 8: the roots of 20000 and 80000 are 141.4 and 282.8
        due(141, logWithout(1, 4, 0, 0, 0)::radius);
        due(282, logWithout(1, 6, 0, 0, 0)::radius);
    }

    @Sentence(promise = 5, says = "by N (cut off): hundredths of a cell")
    static void radiusIsByPartsCutOff() {
        due(200, fullLog(2, 4)::radius);
        due(200, fullLog(3, 4)::radius);
        due(200, fullLog(4, 4)::radius);
        due(500, fullLog(4, 10)::radius);
        due(0, fullLog(4, 1)::radius);
        // a room of 2 by 2 parts: 141 / 2
        due(70, logWithout(3, 3, 0, 1, 0, 0, 2, 1, 1, 0, 2)::radius);
        // rooms of 1 and 18 by 3 parts: 100 / 3 and 424 / 3
        due(33, logWithout(4, 3, 2, 1, 0, 3, 1, 2)::radius);
        due(141, logWithout(4, 4, 0, 0, 0)::radius);
        // a room of 101 by 3 parts: 1004.98 / 3, where 1005 / 3 would be 335
        due(334, logWithout(4, 10, 0, 7, 3, 2, 1, 5)::radius);
    }

    @Sentence(promise = 6, says = "a corner x0, y0 of cells (0 .. SIDE each) at slice 0")
    static void roomOfCornersOfTheFirstSlice() {
        due(0, () -> fullLog(2, 4).roomOf(0, 0, 2, 2));
        due(0, () -> fullLog(2, 4).roomOf(4, 4, 2, 2));
        for (int beside : new int[] {LEAST, -1, 5, MOST}) {
            dueKept(INDEX, Due::busyLog, log -> log.roomOf(beside, 2, 2, 2));
            dueKept(INDEX, Due::busyLog, log -> log.roomOf(2, beside, 2, 2));
        }
    }

    @Sentence(promise = 6, says = "to a corner x1, y1 at the last one")
    static void roomOfCornersOfTheLastSlice() {
        due(0, () -> fullLog(2, 4).roomOf(2, 2, 0, 0));
        due(0, () -> fullLog(2, 4).roomOf(2, 2, 4, 4));
        for (int beside : new int[] {LEAST, -1, 5, MOST}) {
            dueKept(INDEX, Due::busyLog, log -> log.roomOf(2, 2, beside, 2));
            dueKept(INDEX, Due::busyLog, log -> log.roomOf(2, 2, 2, beside));
        }
    }

    @Sentence(promise = 6, says = "N is n - 1, or 1 for one slice.")
    static void roomOfOneSliceLooksAtNoEnd() {
        PeelRibbons x = fullLog(1, 4);
        due(4, () -> x.roomOf(2, 2, 0, 4));
        due(4, () -> x.roomOf(2, 2, 4, 0));
        due(1, () -> x.roomOf(1, 2, 2, 2));
        due(INDEX, () -> x.roomOf(2, 2, 0, 5));
        due(INDEX, () -> x.roomOf(2, 2, -1, 0));
    }

    @Sentence(promise = 6, says = "all beside the cells is not IN")
    static void roomOfCornersAtTheEdgeIsNone() {
        PeelRibbons x = fullLog(1, 4);
        for (int along = 0; along <= 4; along++) {
            int place = along;
            due(0, () -> x.roomOf(0, place, 2, 2));
            due(0, () -> x.roomOf(4, place, 2, 2));
            due(0, () -> x.roomOf(place, 0, 2, 2));
            due(0, () -> x.roomOf(place, 4, 2, 2));
        }
    }

    @Sentence(promise = 6, says = "at slice k it lies at x0 * N + (x1 - x0) * k, and y likewise, in parts")
    static void roomOfSlantedAxes() {
        // at slice 1 the axis lies at 10, 9; a cell that is out begins at 15, 9
        PeelRibbons toTheRight = logWithout(4, 6, 1, 5, 3);
        due(25, () -> toTheRight.roomOf(3, 3, 4, 3));
        // at slice 2 it lies at 7, 9, and a cell that is out ends at 3, 9
        PeelRibbons toTheLeft = logWithout(4, 6, 2, 0, 2);
        due(16, () -> toTheLeft.roomOf(3, 3, 2, 3));
        // likewise for y
        PeelRibbons down = logWithout(4, 6, 1, 3, 5);
        due(25, () -> down.roomOf(3, 3, 3, 4));
        PeelRibbons up = logWithout(4, 6, 2, 2, 0);
        due(16, () -> up.roomOf(3, 3, 3, 2));
    }

    @Sentence(promise = 6, says = "the least square of the distance, over all slices")
    static void roomOfIsTheLeastOfAllSlices() {
        for (int slice = 0; slice < 4; slice++) {
            PeelRibbons x = logWithout(4, 4, slice, 3, 2);
            due(9, () -> x.roomOf(2, 2, 2, 2));
        }
        due(9, () -> fullLog(4, 4).roomOf(1, 2, 2, 2));
        due(9, () -> fullLog(4, 4).roomOf(2, 2, 2, 3));
        // none at one end, though some at the other
        due(0, () -> fullLog(2, 4).roomOf(0, 2, 1, 2));
        due(0, () -> fullLog(2, 4).roomOf(1, 2, 0, 2));
    }

    @Sentence(promise = 6, says = "to a place that is not IN (cells with their sides)")
    static void roomOfGoesToSidesAndCorners() {
        PeelRibbons x = logWithout(1, 10, 0, 6, 7);
        // its sides and its corners belong to the cell that is out
        due(0, () -> x.roomOf(6, 7, 0, 0));
        due(0, () -> x.roomOf(7, 7, 0, 0));
        due(0, () -> x.roomOf(6, 8, 0, 0));
        due(0, () -> x.roomOf(7, 8, 0, 0));
        // straight to its sides
        due(4, () -> x.roomOf(4, 7, 0, 0));
        due(4, () -> x.roomOf(6, 5, 0, 0));
        due(1, () -> x.roomOf(8, 8, 0, 0));
        // slanting to its corners
        due(5, () -> x.roomOf(5, 5, 0, 0));
        due(8, () -> x.roomOf(4, 5, 0, 0));
        due(2, () -> x.roomOf(8, 6, 0, 0));
    }
}
