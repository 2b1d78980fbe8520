/** Promises 7 to 10: the ribbon by turns, and where faults lie in it. */
final class RibbonSentences extends Due {
    private RibbonSentences() {
    }

    @Sentence(promise = 7, says = "thick is not 1 .. 1000")
    static void thickOfPeel() {
        PeelRibbons x = fullLog(1, 2);
        due(100, () -> x.peel(1, 0));
        due(0, () -> x.peel(1000, 0));
        for (int thick : new int[] {LEAST, -1, 0, 1001, MOST}) {
            dueKept(ARGUMENT, Due::busyLog, log -> log.peel(thick, 0));
        }
    }

    @Sentence(promise = 7, says = "or core not 0 .. 1000")
    static void coreOfPeel() {
        PeelRibbons x = fullLog(1, 2);
        due(10, () -> x.peel(10, 0));
        due(0, () -> x.peel(10, 1000));
        for (int core : new int[] {LEAST, -1, 1001, MOST}) {
            dueKept(ARGUMENT, Due::busyLog, log -> log.peel(10, core));
        }
    }

    @Sentence(promise = 7, says = "A call that throws changes nothing")
    static void refusedPeelKeepsNothingPeeled() {
        PeelRibbons x = fullLog(1, 2);
        due(ARGUMENT, () -> x.peel(0, 0));
        dueIsPeeled(false, x);
        due(ARGUMENT, () -> x.peel(1, 1001));
        dueIsPeeled(false, x);
    }

    @Sentence(promise = 7, says = "the TURNS are (RADIUS - c) / t (cut off; none, if RADIUS is below c)")
    static void turnsAreCutOff() {
        PeelRibbons x = fullLog(1, 4);
        due(20, () -> x.peel(10, 0));
        due(19, () -> x.peel(10, 1));
        due(19, () -> x.peel(10, 10));
        due(18, () -> x.peel(10, 11));
        due(1, () -> x.peel(10, 190));
        due(0, () -> x.peel(10, 191));
        due(1, () -> x.peel(200, 0));
        due(0, () -> x.peel(201, 0));
    }

    @Sentence(promise = 7, says = "none, if RADIUS is below c")
    static void noTurnsBelowTheCore() {
        PeelRibbons x = fullLog(1, 4);
        due(1, () -> x.peel(1, 199));
        due(0, () -> x.peel(1, 200));
        due(0, () -> x.peel(1, 201));
        due(0, () -> x.peel(1, 1000));
        dueIsPeeled(true, x);
        due(INDEX, () -> x.before(1));
    }

    @Sentence(promise = 7, says = "PEELED by THICK t down to a CORE c")
    static void logWithoutRoomIsPeeledToNothing() {
        PeelRibbons x = new PeelRibbons(4, 10);
        due(0, () -> x.peel(1, 0));
        dueIsPeeled(true, x);
        due(0, () -> x.clip(1));
        due(0, () -> x.clipped(2));
    }

    @Sentence(promise = 7, says = "PEELED: how many TURNS.")
    static void peelingAgainGoesByTheNewNumbers() {
        PeelRibbons x = fullLog(1, 4);
        due(2, () -> x.peel(100, 0));
        due(4, () -> x.peel(50, 0));
        due(2199, () -> x.before(2));
        due(3, () -> x.peel(50, 50));
        due(INDEX, () -> x.before(4));
    }

    @Sentence(promise = 7, says = "(Nothing is CLIPPED any more.)")
    static void peelUndoesClipped() {
        PeelRibbons x = busyLog();
        x.peel(60, 20);
        dueIsClipped(false, x);
        dueIsPeeled(true, x);
        x.clip(300);
        x.peel(61, 20);
        dueIsClipped(false, x);
    }

    @Sentence(promise = 8, says = "What lies BEFORE turn k (also the one behind the last).")
    static void beforeEveryTurnAndBehindTheLast() {
        PeelRibbons x = fullLog(1, 4);
        x.peel(60, 20);
        due(0, () -> x.before(0));
        due(1256, () -> x.before(1));
        due(2136, () -> x.before(2));
        due(2638, () -> x.before(3));
    }

    @Sentence(promise = 8, says = "k is not 0 .. TURNS")
    static void beforeNoSuchTurn() {
        for (int k : new int[] {LEAST, -1, 4, MOST}) {
            dueKept(INDEX, Due::busyLog, log -> log.before(k));
        }
        PeelRibbons none = fullLog(1, 2);
        none.peel(1, 100);
        due(0, () -> none.before(0));
        due(INDEX, () -> none.before(1));
        due(INDEX, () -> none.before(-1));
    }

    @Sentence(promise = 8, says = "the sum of radii of all turns before it, * 710 / 113 (cut off)")
    static void beforeIsCutOffOnce() {
        PeelRibbons x = fullLog(1, 4);
        x.peel(60, 20);
        // the turns themselves, each cut off, are 1256 and 879 long, one less in all
        due(2136, () -> x.before(2));
        PeelRibbons greatest = fullLog(4, 10);
        due(500, () -> greatest.peel(1, 0));
        due(786969, () -> greatest.before(500));
        due(786962, () -> greatest.before(499));
    }

    @Sentence(promise = 8, says = "IllegalStateException (first)")
    static void beforeNeedsPeeledFirst() {
        for (int k : new int[] {LEAST, -1, 0, 1, MOST}) {
            dueKept(STATE, () -> fullLog(2, 4), log -> log.before(k));
        }
    }

    @Sentence(promise = 8, says = "nothing is PEELED (or CLIPPED), or was since something that it hangs on was told")
    static void beforeNeedsPeelingAgain() {
        PeelRibbons x = busyLog();
        x.cell(0, 0, 0, false);
        due(STATE, () -> x.before(0));
        due(STATE, () -> x.before(-1));
        x.cell(0, 0, 0, true);
        due(STATE, () -> x.before(0));
        x.peel(60, 20);
        due(0, () -> x.before(0));
    }

    @Sentence(promise = 9, says = "A FAULT more: its number.")
    static void faultsAreNumberedAsTold() {
        PeelRibbons x = new PeelRibbons(1, 1);
        for (int k = 0; k < 16; k++) {
            int number = k;
            due(number, () -> x.fault(0, 0, 0));
        }
    }

    @Sentence(promise = 9, says = "angle is not 0 .. 359")
    static void angleOfFault() {
        PeelRibbons x = new PeelRibbons(1, 1);
        due(0, () -> x.fault(0, 1, 1));
        due(1, () -> x.fault(359, 1, 1));
        for (int angle : new int[] {LEAST, -1, 360, MOST}) {
            dueKept(ARGUMENT, Due::busyLog, log -> log.fault(angle, 1, 1));
        }
    }

    @Sentence(promise = 9, says = "radius not 0 .. 1000")
    static void radiusOfFault() {
        PeelRibbons x = new PeelRibbons(1, 1);
        due(0, () -> x.fault(1, 0, 1));
        due(1, () -> x.fault(1, 1000, 1));
        for (int radius : new int[] {LEAST, -1, 1001, MOST}) {
            dueKept(ARGUMENT, Due::busyLog, log -> log.fault(1, radius, 1));
        }
    }

    @Sentence(promise = 9, says = "or kind not 0 .. 3")
    static void kindOfFault() {
        PeelRibbons x = new PeelRibbons(1, 1);
        due(0, () -> x.fault(1, 1, 0));
        due(1, () -> x.fault(1, 1, 3));
        for (int kind : new int[] {LEAST, -1, 4, 32, MOST}) {
            dueKept(ARGUMENT, Due::busyLog, log -> log.fault(1, 1, kind));
        }
    }

    @Sentence(promise = 9, says = "IllegalStateException: there are 16.")
    static void noMoreThan16Faults() {
        dueKept(STATE, Due::fullPlaces, log -> log.fault(0, 0, 0));
        dueKept(STATE, Due::fullPlaces, log -> log.fault(359, 1000, 3));
    }

    @Sentence(promise = 9, says = "of several exceptions the one named first is thrown")
    static void wrongFaultBeforeTooManyFaults() {
        dueKept(ARGUMENT, Due::fullPlaces, log -> log.fault(360, 0, 0));
        dueKept(ARGUMENT, Due::fullPlaces, log -> log.fault(0, 1001, 0));
        dueKept(ARGUMENT, Due::fullPlaces, log -> log.fault(0, 0, 4));
    }

    @Sentence(promise = 9, says = "(Nothing is CLIPPED any more.)")
    static void faultUndoesClippedButNotPeeled() {
        PeelRibbons x = busyLog();
        x.fault(0, 100, 0);
        dueIsClipped(false, x);
        dueIsPeeled(true, x);
        x.clip(300);
        // also one that is not in the ribbon
        x.fault(0, 1000, 0);
        dueIsClipped(false, x);
    }

    @Sentence(promise = 10, says = "Where a fault lies in the ribbon; NONE if it does not.")
    static void unrolledFaults() {
        PeelRibbons x = fullLog(1, 4);
        x.fault(180, 200, 0);
        x.fault(90, 140, 0);
        x.fault(90, 500, 0);
        x.peel(60, 20);
        due(628, () -> x.unrolled(0));
        due(1256 + 219, () -> x.unrolled(1));
        due(-1, () -> x.unrolled(2));
        // PEELED again, they lie where the new turns put them
        x.peel(70, 60);
        due(314, () -> x.unrolled(1));
    }

    @Sentence(promise = 10, says = "(above RADIUS - TURNS * t, at most RADIUS)")
    static void faultsOutsideTheTurns() {
        PeelRibbons x = fullLog(1, 4);
        dueUnrolled(x, 201, 60, 20, NONE);
        dueUnrolled(x, 200, 60, 20, 0);
        dueUnrolled(x, 21, 60, 20, 2136);
        dueUnrolled(x, 20, 60, 20, NONE);
        dueUnrolled(x, 0, 60, 20, NONE);
        dueUnrolled(x, 1000, 60, 20, NONE);
        // below the last whole turn though above the core
        dueUnrolled(x, 61, 70, 0, 1256);
        dueUnrolled(x, 60, 70, 0, NONE);
        // down to nothing
        dueUnrolled(x, 1, 100, 0, 1256);
        dueUnrolled(x, 0, 100, 0, NONE);
    }

    @Sentence(promise = 10, says = "other ones are not in the ribbon")
    static void noFaultIsInARibbonWithoutTurns() {
        PeelRibbons x = fullLog(1, 4);
        dueUnrolled(x, 200, 1, 200, NONE);
        dueUnrolled(x, 200, 1000, 0, NONE);
        dueUnrolled(x, 199, 1, 1000, NONE);
        dueUnrolled(new PeelRibbons(1, 1), 0, 1, 0, NONE);
    }

    @Sentence(promise = 10, says = "the turn is (RADIUS - f) / t (cut off)")
    static void turnOfFault() {
        PeelRibbons x = fullLog(1, 4);
        dueUnrolled(x, 200, 60, 20, 0);
        dueUnrolled(x, 141, 60, 20, 0);
        dueUnrolled(x, 140, 60, 20, 1256);
        dueUnrolled(x, 81, 60, 20, 1256);
        dueUnrolled(x, 80, 60, 20, 2136);
    }

    /** A fault more, at angle 0, of a log that is PEELED again. */
    private static void dueUnrolled(PeelRibbons x, int radius, int thick, int core, int place) {
        int fault = x.fault(0, radius, 0);
        x.peel(thick, core);
        due(place, () -> x.unrolled(fault));
    }

    @Sentence(promise = 10, says = "(that turn's radius * 710 / 113) * angle / 360 more (each cut off)")
    static void placeOfFaultIsCutOffThrice() {
        PeelRibbons x = fullLog(1, 2);
        x.fault(100, 90, 0);
        x.fault(0, 90, 0);
        x.fault(359, 90, 0);
        x.peel(5, 0);
        // 1225.2 and 565.4 * 100 / 360: cut off later it would be 1382
        due(1381, () -> x.unrolled(0));
        due(1225, () -> x.unrolled(1));
        due(1788, () -> x.unrolled(2));
        due(1790, () -> x.before(3));
    }

    @Sentence(promise = 10, says = "there is no such slice, cell, leaf, what, fault")
    static void unrolledOfNoSuchFault() {
        for (int fault : new int[] {LEAST, -1, 2, MOST}) {
            dueKept(INDEX, Due::busyLog, log -> log.unrolled(fault));
        }
        dueKept(INDEX, Due::fullPlaces, log -> log.unrolled(16));
        due(2554, () -> fullPlaces().unrolled(15));
        PeelRibbons without = ribbonOf1256();
        due(INDEX, () -> without.unrolled(0));
    }

    @Sentence(promise = 10, says = "IllegalStateException: nothing is PEELED.")
    static void unrolledNeedsPeeled() {
        PeelRibbons x = fullLog(1, 2);
        x.fault(0, 100, 0);
        due(STATE, () -> x.unrolled(0));
        x.peel(100, 0);
        due(0, () -> x.unrolled(0));
        x.cell(0, 0, 0, false);
        due(STATE, () -> x.unrolled(0));
    }

    @Sentence(promise = 10, says = "of several exceptions the one named first is thrown")
    static void noSuchFaultBeforeNothingPeeled() {
        PeelRibbons x = fullLog(1, 2);
        due(INDEX, () -> x.unrolled(0));
        x.fault(0, 100, 0);
        due(INDEX, () -> x.unrolled(1));
        due(INDEX, () -> x.unrolled(-1));
    }
}
