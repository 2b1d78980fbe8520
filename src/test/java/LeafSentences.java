/** Promises 11, 12 and 16: leaves, the kinds that they bar, and how broad they are when dry. */
final class LeafSentences extends Due {
    private LeafSentences() {
    }

    @Sentence(promise = 11, says = "LEAVES 0 .. 5 (as they are told)")
    static void leavesAreNumberedAsTold() {
        PeelRibbons x = new PeelRibbons(1, 1);
        for (int k = 0; k < 6; k++) {
            int number = k;
            due(number, () -> x.leaf(number + 1, 0));
        }
        for (int k = 0; k < 6; k++) {
            int number = k;
            due(number + 1, () -> x.shrink(number, 1, 1));
        }
    }

    @Sentence(promise = 11, says = "width is not 1 .. 500")
    static void widthOfLeaf() {
        PeelRibbons x = new PeelRibbons(1, 1);
        due(0, () -> x.leaf(1, 1));
        due(1, () -> x.leaf(500, 1));
        for (int width : new int[] {LEAST, -1, 0, 501, MOST}) {
            dueKept(ARGUMENT, Due::busyLog, log -> log.leaf(width, 1));
        }
    }

    @Sentence(promise = 11, says = "or worth not 0 .. 1000000")
    static void worthOfLeaf() {
        PeelRibbons x = new PeelRibbons(1, 1);
        due(0, () -> x.leaf(1, 0));
        due(1, () -> x.leaf(1, 1000000));
        for (int worth : new int[] {LEAST, -1, 1000001, MOST}) {
            dueKept(ARGUMENT, Due::busyLog, log -> log.leaf(1, worth));
        }
    }

    @Sentence(promise = 11, says = "IllegalStateException: there are 6.")
    static void noMoreThan6Leaves() {
        dueKept(STATE, Due::fullPlaces, log -> log.leaf(1, 0));
        dueKept(STATE, Due::fullPlaces, log -> log.leaf(500, 1000000));
    }

    @Sentence(promise = 11, says = "of several exceptions the one named first is thrown")
    static void wrongLeafBeforeTooManyLeaves() {
        dueKept(ARGUMENT, Due::fullPlaces, log -> log.leaf(0, 0));
        dueKept(ARGUMENT, Due::fullPlaces, log -> log.leaf(1, -1));
    }

    @Sentence(promise = 11, says = "(Nothing is CLIPPED any more.)")
    static void leafUndoesClippedButNotPeeled() {
        PeelRibbons x = busyLog();
        // also one that is too broad for the ribbon
        x.leaf(500, 0);
        dueIsClipped(false, x);
        dueIsPeeled(true, x);
    }

    @Sentence(promise = 12, says = "A leaf BARS a KIND, or not: whether that is new.")
    static void barsTellsWhetherItIsNew() {
        PeelRibbons x = new PeelRibbons(1, 1);
        x.leaf(1, 1);
        x.leaf(1, 1);
        due(false, () -> x.bars(0, 0, false));
        due(true, () -> x.bars(0, 0, true));
        due(false, () -> x.bars(0, 0, true));
        due(true, () -> x.bars(0, 3, true));
        due(true, () -> x.bars(1, 0, true));
        due(true, () -> x.bars(0, 0, false));
        due(false, () -> x.bars(0, 0, false));
        due(false, () -> x.bars(0, 3, true));
        due(false, () -> x.bars(1, 0, true));
    }

    @Sentence(promise = 12, says = "IndexOutOfBoundsException: no such leaf, kind.")
    static void barsOfNoSuchLeaf() {
        due(INDEX, () -> new PeelRibbons(1, 1).bars(0, 0, true));
        due(true, () -> fullPlaces().bars(5, 3, true));
        dueKept(INDEX, Due::fullPlaces, log -> log.bars(6, 3, true));
        for (int leaf : new int[] {LEAST, -1, 2, MOST}) {
            dueKept(INDEX, Due::busyLog, log -> log.bars(leaf, 0, true));
        }
    }

    @Sentence(promise = 12, says = "IndexOutOfBoundsException: no such leaf, kind.")
    static void barsOfNoSuchKind() {
        due(true, () -> busyLog().bars(0, 0, true));
        due(true, () -> busyLog().bars(0, 3, true));
        for (int kind : new int[] {LEAST, -1, 4, 32, MOST}) {
            dueKept(INDEX, Due::busyLog, log -> log.bars(0, kind, true));
        }
    }

    @Sentence(promise = 12, says = "(Nothing is CLIPPED any more, if so.)")
    static void newBarUndoesClippedButNotPeeled() {
        PeelRibbons x = busyLog();
        due(true, () -> x.bars(0, 3, true));
        dueIsClipped(false, x);
        dueIsPeeled(true, x);
        x.clip(300);
        due(true, () -> x.bars(0, 3, false));
        dueIsClipped(false, x);
        dueIsPeeled(true, x);
    }

    @Sentence(promise = 12, says = "(Nothing is CLIPPED any more, if so.)")
    static void barToldAgainKeepsClipped() {
        dueKept(false, Due::busyLog, log -> log.bars(0, 2, true));
        dueKept(false, Due::busyLog, log -> log.bars(0, 3, false));
        PeelRibbons x = busyLog();
        x.bars(0, 2, true);
        dueIsClipped(true, x);
    }

    @Sentence(promise = 16, says = "its width times above by below (cut off)")
    static void shrinkIsCutOff() {
        PeelRibbons x = new PeelRibbons(1, 1);
        x.leaf(500, 1);
        x.leaf(7, 1);
        due(500, () -> x.shrink(0, 1000, 1000));
        due(499, () -> x.shrink(0, 999, 1000));
        due(1, () -> x.shrink(0, 2, 1000));
        due(0, () -> x.shrink(0, 1, 501));
        due(6, () -> x.shrink(1, 6, 7));
        due(5, () -> x.shrink(1, 6, 8));
    }

    @Sentence(promise = 16, says = "there is no such slice, cell, leaf")
    static void shrinkOfNoSuchLeaf() {
        due(INDEX, () -> new PeelRibbons(1, 1).shrink(0, 1, 1));
        due(6, () -> fullPlaces().shrink(5, 1, 1));
        due(INDEX, () -> fullPlaces().shrink(6, 1, 1));
        for (int leaf : new int[] {LEAST, -1, 2, MOST}) {
            dueKept(INDEX, Due::busyLog, log -> log.shrink(leaf, 1, 1));
        }
    }

    @Sentence(promise = 16, says = "below is not 1 .. 1000")
    static void belowOfShrink() {
        due(4, () -> busyLog().shrink(0, 1, 1));
        due(4, () -> busyLog().shrink(0, 1000, 1000));
        for (int below : new int[] {LEAST, -1, 0, 1001, MOST}) {
            dueKept(ARGUMENT, Due::busyLog, log -> log.shrink(0, 0, below));
        }
    }

    @Sentence(promise = 16, says = "or above not 0 .. below")
    static void aboveOfShrink() {
        due(0, () -> busyLog().shrink(0, 0, 10));
        due(4, () -> busyLog().shrink(0, 10, 10));
        for (int above : new int[] {LEAST, -1, 11, MOST}) {
            dueKept(ARGUMENT, Due::busyLog, log -> log.shrink(0, above, 10));
        }
        due(ARGUMENT, () -> busyLog().shrink(0, 1001, 1001));
        due(ARGUMENT, () -> busyLog().shrink(0, -1, -1));
    }

    @Sentence(promise = 16, says = "of several exceptions the one named first is thrown")
    static void noSuchLeafBeforeWrongNumbers() {
        due(INDEX, () -> busyLog().shrink(2, 1, 0));
        due(INDEX, () -> busyLog().shrink(-1, 2, 1));
    }
}
