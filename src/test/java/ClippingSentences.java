/** Promises 13 to 15: leaves clipped from the ribbon by the greatest worth. */
final class ClippingSentences extends Due {
    private ClippingSentences() {
    }

    @Sentence(promise = 13, says = "step is not 1 .. 1000")
    static void stepOfClip() {
        PeelRibbons x = ribbonOf1256();
        x.clip(1);
        due(1256, () -> x.clipped(2));
        x.clip(1000);
        due(1, () -> x.clipped(2));
        for (int step : new int[] {LEAST, -1, 0, 1001, MOST}) {
            dueKept(ARGUMENT, Due::busyLog, log -> log.clip(step));
        }
    }

    @Sentence(promise = 13, says = "IllegalStateException: nothing is PEELED.")
    static void clipNeedsPeeled() {
        dueKept(STATE, () -> fullLog(2, 4), log -> log.clip(1));
        PeelRibbons x = busyLog();
        x.cell(0, 0, 0, false);
        due(STATE, () -> x.clip(300));
        dueIsClipped(false, x);
        x.peel(60, 20);
        x.clip(300);
        dueIsClipped(true, x);
    }

    @Sentence(promise = 13, says = "of several exceptions the one named first is thrown")
    static void wrongStepBeforeNothingPeeled() {
        due(ARGUMENT, () -> fullLog(1, 2).clip(0));
        due(ARGUMENT, () -> fullLog(1, 2).clip(1001));
    }

    @Sentence(promise = 13, says = "the ribbon has LENGTH / STEP (cut off, at most 2000) steps")
    static void stepsAreCutOff() {
        PeelRibbons x = ribbonOf1256();
        dueSteps(x, 157, 8);
        dueSteps(x, 158, 7);
        dueSteps(x, 156, 8);
        PeelRibbons shorter = fullLog(1, 2);
        shorter.peel(100, 0);
        dueSteps(shorter, 628, 1);
        dueSteps(shorter, 629, 0);
        dueLeaves(shorter);
    }

    @Sentence(promise = 13, says = "LENGTH is what lies BEFORE the turn behind the last one.")
    static void stepsOfAllTurns() {
        PeelRibbons x = fullLog(1, 4);
        x.peel(60, 20);
        due(2638, () -> x.before(3));
        dueSteps(x, 2, 1319);
        dueSteps(x, 659, 4);
        dueSteps(x, 660, 3);
        // without turns there is no step
        x.peel(60, 200);
        dueSteps(x, 1, 0);
    }

    @Sentence(promise = 13, says = "the ribbon has LENGTH / STEP (cut off, at most 2000) steps")
    static void stepsAreAtMost2000() {
        PeelRibbons x = fullLog(1, 10);
        x.peel(45, 410);
        due(6000, () -> x.before(2));
        dueSteps(x, 3, 2000);
        dueSteps(x, 4, 1500);
        // 2001 steps of 4
        x.peel(121, 16);
        due(8004, () -> x.before(4));
        dueSteps(x, 4, 2000);
        dueSteps(x, 1, 2000);
        dueSteps(x, 5, 1600);
    }

    private static void dueSteps(PeelRibbons x, int step, int steps) {
        due(0, () -> x.clip(step));
        dueClipped(x, 0, steps, steps);
    }

    @Sentence(promise = 13, says = "The clipping with the greatest sum of WORTHS")
    static void worthOfTheMostSteps() {
        PeelRibbons x = fullLog(1, 10);
        x.peel(1, 0);
        x.leaf(1, 1000000);
        due(2000, () -> x.clip(1));
        dueClipped(x, 2000000000, 0, 2000);
        due(1999, () -> x.at(1999, 1));
        due(INDEX, () -> x.at(2000, 1));
    }

    @Sentence(promise = 13, says = "fault places / STEP (cut off) are their steps")
    static void stepOfFault() {
        PeelRibbons x = ribbonOf1256();
        x.leaf(1, 1);
        x.bars(0, 0, true);
        x.fault(144, 200, 0);
        due(502, () -> x.unrolled(0));
        due(4, () -> x.clip(251));
        dueLeaves(x, 0, 0, 0, 1, 0, 3, 0, 4);
        due(3, () -> x.clip(252));
        dueLeaves(x, 0, 0, 0, 2, 0, 3);
    }

    @Sentence(promise = 13, says = "fault places / STEP (cut off) are their steps")
    static void faultBehindTheLastStepBarsNothing() {
        PeelRibbons x = ribbonOf1256();
        x.leaf(1, 1);
        x.bars(0, 0, true);
        x.fault(359, 1, 0);
        due(1252, () -> x.unrolled(0));
        // 12 steps of 100 end at 1200, 8 of 157 at 1256
        due(12, () -> x.clip(100));
        due(7, () -> x.clip(157));
        due(1, () -> x.clip(1000));
    }

    @Sentence(promise = 13, says = "at most 2000) steps; fault places / STEP (cut off) are their steps")
    static void faultBehindStep1999BarsNothing() {
        PeelRibbons x = fullLog(1, 10);
        x.peel(121, 16);
        x.leaf(1, 1);
        x.bars(0, 0, true);
        x.fault(359, 137, 0);
        due(8000, () -> x.unrolled(0));
        due(2000, () -> x.clip(4));
        x.fault(358, 137, 0);
        due(7998, () -> x.unrolled(1));
        due(1999, () -> x.clip(4));
        dueClipped(x, 1999, 1, 2000);
        due(1998, () -> x.at(1998, 1));
    }

    @Sentence(promise = 13, says = "other ones are not in the ribbon")
    static void faultBesideTheRibbonBarsNothing() {
        PeelRibbons x = ribbonOf1256();
        x.leaf(4, 4);
        x.bars(0, 0, true);
        x.fault(0, 201, 0);
        x.fault(0, 0, 0);
        due(3, () -> x.clip(100));
        dueClipped(x, 12, 0, 12);
    }

    @Sentence(promise = 13, says = "has no fault of a KIND that it bars")
    static void leafHasNoFaultFromItsFirstStepToItsLast() {
        // of 12 steps the fault is in step 5
        dueLeafAroundFault(1, 0, 1, 2, 3, 4, 6, 7, 8, 9, 10, 11);
        dueLeafAroundFault(5, 0, 6);
        dueLeafAroundFault(6, 6);
        dueLeafAroundFault(7);
        dueLeafAroundFault(12);
    }

    private static void dueLeafAroundFault(int width, int... firstSteps) {
        PeelRibbons x = ribbonOf1256();
        x.fault(144, 200, 2);
        x.leaf(width, 1);
        x.bars(0, 2, true);
        due(firstSteps.length, () -> x.clip(100));
        for (int k = 0; k < firstSteps.length; k++) {
            int number = k;
            due(firstSteps[k], () -> x.at(number, 1));
        }
    }

    @Sentence(promise = 13, says = "has no fault of a KIND that it bars")
    static void leafMayHaveFaultsOfOtherKinds() {
        PeelRibbons x = ribbonOf1256();
        x.fault(144, 200, 2);
        x.leaf(12, 1);
        due(1, () -> x.clip(100));
        for (int kind : new int[] {0, 1, 3}) {
            x.bars(0, kind, true);
            due(1, () -> x.clip(100));
        }
        x.bars(0, 2, true);
        due(0, () -> x.clip(100));
        x.bars(0, 2, false);
        due(1, () -> x.clip(100));
    }

    @Sentence(promise = 13, says = "has no fault of a KIND that it bars")
    static void eachOfSeveralFaultsInOneStepBars() {
        PeelRibbons x = ribbonOf1256();
        x.fault(144, 200, 2);
        x.fault(144, 200, 0);
        x.leaf(12, 1);
        x.leaf(12, 1);
        x.bars(0, 2, true);
        due(1, () -> x.clip(100));
        dueLeaves(x, 1, 0);
        x.bars(1, 0, true);
        due(0, () -> x.clip(100));
    }

    @Sentence(promise = 13, says = "LEAVES 0 .. 5 (as they are told) have a width in STEPS, a WORTH, and BAR some KINDS of faults.")
    static void eachLeafBarsItsOwnKinds() {
        PeelRibbons x = ribbonOf1256();
        x.fault(144, 200, 2);
        x.leaf(4, 4);
        x.leaf(1, 0);
        x.bars(0, 2, true);
        due(6, () -> x.clip(100));
        dueClipped(x, 8, 0, 12);
        dueLeaves(x, 0, 0, 1, 4, 1, 5, 0, 6, 1, 10, 1, 11);
        x.bars(1, 2, true);
        due(5, () -> x.clip(100));
        dueClipped(x, 8, 1, 12);
        dueLeaves(x, 0, 0, 1, 4, 0, 6, 1, 10, 1, 11);
    }

    @Sentence(promise = 13, says = "and lies in the ribbon")
    static void leafAsBroadAsTheRibbon() {
        PeelRibbons x = ribbonOf1256();
        x.leaf(12, 1);
        due(1, () -> x.clip(100));
        dueClipped(x, 1, 0, 12);
        due(0, () -> x.clip(105));
        dueClipped(x, 0, 11, 11);
        // the broadest: twice in 1000 steps, once in 857
        PeelRibbons broadest = fullLog(1, 10);
        broadest.leaf(500, 1);
        broadest.peel(45, 410);
        due(2, () -> broadest.clip(6));
        dueClipped(broadest, 2, 0, 1000);
        due(1, () -> broadest.clip(7));
        dueClipped(broadest, 1, 357, 857);
    }

    @Sentence(promise = 13, says = "or the step is waste")
    static void allIsWasteWithoutLeaves() {
        PeelRibbons x = ribbonOf1256();
        due(0, () -> x.clip(100));
        dueClipped(x, 0, 12, 12);
        dueLeaves(x);
    }

    @Sentence(promise = 13, says = "The clipping with the greatest sum of WORTHS")
    static void moreWorthBeforeLessWaste() {
        PeelRibbons x = ribbonOf1256();
        x.leaf(12, 6);
        x.leaf(11, 7);
        due(1, () -> x.clip(100));
        dueClipped(x, 7, 1, 12);
        dueLeaves(x, 1, 0);
        // five of leaf 0 are worth 15 and leave no waste of 2000 steps, four of leaf 1 are worth 16
        PeelRibbons longest = fullLog(1, 10);
        longest.peel(45, 410);
        longest.leaf(400, 3);
        longest.leaf(401, 4);
        due(4, () -> longest.clip(3));
        dueClipped(longest, 16, 396, 2000);
        dueLeaves(longest, 1, 0, 1, 401, 1, 802, 1, 1203);
    }

    @Sentence(promise = 13, says = "of several the fewest steps of waste")
    static void lessWasteOfEqualWorths() {
        PeelRibbons x = ribbonOf1256();
        x.leaf(7, 5);
        x.leaf(2, 0);
        due(3, () -> x.clip(100));
        dueClipped(x, 5, 1, 12);
        dueLeaves(x, 0, 0, 1, 7, 1, 9);
        // though the waste comes before the leaf, which is barred from step 0
        PeelRibbons late = ribbonOf1256();
        late.fault(0, 200, 0);
        late.leaf(7, 5);
        late.leaf(11, 5);
        late.bars(1, 0, true);
        due(1, () -> late.clip(100));
        dueClipped(late, 5, 1, 12);
        dueLeaves(late, 1, 1);
    }

    @Sentence(promise = 13, says = "from the begin on, a leaf before waste")
    static void leafBeforeWaste() {
        PeelRibbons x = ribbonOf1256();
        x.leaf(5, 3);
        due(2, () -> x.clip(100));
        dueClipped(x, 6, 2, 12);
        dueLeaves(x, 0, 0, 0, 5);
    }

    @Sentence(promise = 13, says = "from the begin on, a leaf before waste")
    static void leafOfGreaterNumberBeforeWaste() {
        // leaf 0 could only begin behind the fault in step 0
        PeelRibbons x = ribbonOf1256();
        x.fault(0, 200, 0);
        x.leaf(2, 5);
        x.leaf(2, 5);
        x.bars(0, 0, true);
        due(1, () -> x.clip(400));
        dueClipped(x, 5, 1, 3);
        dueLeaves(x, 1, 0);
    }

    @Sentence(promise = 13, says = "a leaf of a lesser number")
    static void leafOfLesserNumber() {
        PeelRibbons alike = ribbonOf1256();
        alike.leaf(6, 3);
        alike.leaf(6, 3);
        due(2, () -> alike.clip(100));
        dueLeaves(alike, 0, 0, 0, 6);
        PeelRibbons narrowFirst = ribbonOf1256();
        narrowFirst.leaf(4, 4);
        narrowFirst.leaf(8, 8);
        due(3, () -> narrowFirst.clip(100));
        dueLeaves(narrowFirst, 0, 0, 0, 4, 0, 8);
        PeelRibbons broadFirst = ribbonOf1256();
        broadFirst.leaf(8, 8);
        broadFirst.leaf(4, 4);
        due(2, () -> broadFirst.clip(100));
        dueLeaves(broadFirst, 0, 0, 1, 8);
    }

    @Sentence(promise = 13, says = "CLIPPED: how many leaves.")
    static void clippingAgainGoesByWhatIsToldNow() {
        PeelRibbons x = ribbonOf1256();
        x.leaf(1, 1);
        x.bars(0, 0, true);
        x.fault(0, 100, 0);
        due(11, () -> x.clip(100));
        due(1, () -> x.at(0, 1));
        // PEELED anew the fault lies elsewhere, in step 21
        x.peel(50, 0);
        due(30, () -> x.clip(100));
        due(0, () -> x.at(0, 1));
        due(20, () -> x.at(20, 1));
        due(22, () -> x.at(21, 1));
        due(2, () -> x.clip(1000));
        dueClipped(x, 2, 1, 3);
    }

    @Sentence(promise = 14, says = "Of the k-th leaf that was CLIPPED: which one (what = 0), its first step (1).")
    static void atTellsLeavesInTheirOrder() {
        PeelRibbons x = ribbonOf1256();
        x.leaf(5, 10);
        x.leaf(4, 7);
        due(3, () -> x.clip(100));
        dueClipped(x, 21, 0, 12);
        dueLeaves(x, 1, 0, 1, 4, 1, 8);
        due(3, () -> x.clip(89));
        dueLeaves(x, 0, 0, 0, 5, 1, 10);
    }

    @Sentence(promise = 14, says = "there is no such slice, cell, leaf, what")
    static void atOfNoSuchLeafOrWhat() {
        PeelRibbons x = ribbonOf1256();
        x.leaf(5, 10);
        due(2, () -> x.clip(110));
        for (int k : new int[] {LEAST, -1, 2, MOST}) {
            due(INDEX, () -> x.at(k, 0));
            due(INDEX, () -> x.at(k, 1));
            due(INDEX, () -> x.at(0, k));
            dueKept(INDEX, Due::busyLog, log -> log.at(0, k));
        }
        dueLeaves(x, 0, 0, 0, 5);
        due(0, () -> x.clip(1000));
        due(INDEX, () -> x.at(0, 0));
    }

    @Sentence(promise = 14, says = "IllegalStateException (first)")
    static void atNeedsClippedFirst() {
        PeelRibbons x = fullLog(2, 4);
        due(STATE, () -> x.at(0, 0));
        due(STATE, () -> x.at(-1, 2));
        x.peel(60, 20);
        dueStateOfAt(x);
        x.leaf(1, 1);
        x.clip(300);
        due(0, () -> x.at(0, 0));
        x.fault(0, 0, 0);
        dueStateOfAt(x);
    }

    private static void dueStateOfAt(PeelRibbons x) {
        due(STATE, () -> x.at(0, 0));
        due(STATE, () -> x.at(0, 1));
        due(STATE, () -> x.at(0, 2));
        due(STATE, () -> x.at(0, LEAST));
        due(STATE, () -> x.at(-1, 0));
        due(STATE, () -> x.at(MOST, 0));
    }

    @Sentence(promise = 15, says = "The sum of WORTHS (what = 0), steps of waste (1), all steps (2).")
    static void clippedTellsThreeNumbers() {
        PeelRibbons x = ribbonOf1256();
        x.leaf(5, 10);
        x.clip(100);
        due(20, () -> x.clipped(0));
        due(2, () -> x.clipped(1));
        due(12, () -> x.clipped(2));
    }

    @Sentence(promise = 15, says = "there is no such slice, cell, leaf, what")
    static void clippedOfNoSuchWhat() {
        for (int what : new int[] {LEAST, -1, 3, MOST}) {
            dueKept(INDEX, Due::busyLog, log -> log.clipped(what));
        }
    }

    @Sentence(promise = 15, says = "IllegalStateException (first)")
    static void clippedNeedsClippedFirst() {
        PeelRibbons x = fullLog(2, 4);
        dueStateOfClipped(x);
        x.peel(60, 20);
        dueStateOfClipped(x);
        x.clip(300);
        x.peel(60, 20);
        dueStateOfClipped(x);
    }

    private static void dueStateOfClipped(PeelRibbons x) {
        for (int what : new int[] {LEAST, -1, 0, 1, 2, 3, MOST}) {
            due(STATE, () -> x.clipped(what));
        }
    }

    @Sentence(promise = 15, says = "nothing is PEELED (or CLIPPED), or was since something that it hangs on was told")
    static void clippedHangsOnNothingElse() {
        dueKept(4, Due::busyLog, PeelRibbons::room);
        dueKept(200, Due::busyLog, PeelRibbons::radius);
        dueKept(2, Due::busyLog, log -> log.axis(0));
        dueKept(1, Due::busyLog, log -> log.roomOf(1, 1, 1, 1));
        dueKept(1256, Due::busyLog, log -> log.before(1));
        dueKept(502, Due::busyLog, log -> log.unrolled(0));
        dueKept(1, Due::busyLog, log -> log.at(0, 0));
        dueKept(8, Due::busyLog, log -> log.clipped(2));
        dueKept(2, Due::busyLog, log -> log.shrink(0, 1, 2));
        dueKept(995, Due::busyLog, log -> log.knife(300));
        PeelRibbons x = busyLog();
        x.row(10, 1);
        dueIsClipped(true, x);
        dueIsPeeled(true, x);
    }

    @Sentence(promise = 15, says = "A call that throws changes nothing")
    static void refusedClipKeepsWhatWasClipped() {
        PeelRibbons x = ribbonOf1256();
        x.leaf(5, 10);
        x.clip(100);
        due(ARGUMENT, () -> x.clip(0));
        due(ARGUMENT, () -> x.clip(1001));
        dueClipped(x, 20, 2, 12);
        dueLeaves(x, 0, 0, 0, 5);
    }
}
