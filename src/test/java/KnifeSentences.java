/** Promises 17 and 18: the rows of the knife, and its angle at a radius. */
final class KnifeSentences extends Due {
    private KnifeSentences() {
    }

    @Sentence(promise = 17, says = "radius is not 0 .. 1000")
    static void radiusOfRow() {
        due(true, () -> new PeelRibbons(1, 1).row(0, 0));
        due(true, () -> new PeelRibbons(1, 1).row(1000, 0));
        for (int radius : new int[] {LEAST, -1, 1001, MOST}) {
            dueKept(ARGUMENT, () -> new PeelRibbons(1, 1), log -> log.row(radius, 0));
            dueKept(ARGUMENT, Due::busyLog, log -> log.row(radius, 0));
        }
    }

    @Sentence(promise = 17, says = "or not below the one before")
    static void rowBelowTheOneBefore() {
        dueKept(ARGUMENT, Due::busyLog, log -> log.row(300, 0));
        dueKept(ARGUMENT, Due::busyLog, log -> log.row(301, 0));
        dueKept(ARGUMENT, Due::busyLog, log -> log.row(1000, 0));
        due(true, () -> busyLog().row(299, 0));
        PeelRibbons lowest = new PeelRibbons(1, 1);
        due(true, () -> lowest.row(0, 7));
        due(ARGUMENT, () -> lowest.row(0, 8));
        due(1007, () -> lowest.knife(0));
    }

    @Sentence(promise = 17, says = "or angle not -100 .. 100")
    static void angleOfRow() {
        due(true, () -> busyLog().row(0, -100));
        due(true, () -> busyLog().row(0, 100));
        for (int angle : new int[] {LEAST, -101, 101, MOST}) {
            dueKept(ARGUMENT, Due::busyLog, log -> log.row(0, angle));
        }
    }

    @Sentence(promise = 17, says = "A ROW more of the knife: whether there was room.")
    static void noMoreThan8Rows() {
        PeelRibbons x = new PeelRibbons(1, 1);
        for (int k = 0; k < 8; k++) {
            int number = k;
            due(true, () -> x.row(8 - number, number));
        }
        due(false, () -> x.row(0, 9));
        due(1007, () -> x.knife(0));
        dueKept(false, Due::fullPlaces, log -> log.row(0, 50));
        dueKept(false, Due::fullPlaces, log -> log.row(199, -100));
    }

    @Sentence(promise = 17, says = "IllegalArgumentException: radius is not 0 .. 1000, or not below the one before")
    static void wrongRowBeforeNoRoom() {
        dueKept(ARGUMENT, Due::fullPlaces, log -> log.row(200, 0));
        dueKept(ARGUMENT, Due::fullPlaces, log -> log.row(1000, 0));
        dueKept(ARGUMENT, Due::fullPlaces, log -> log.row(-1, 0));
        dueKept(ARGUMENT, Due::fullPlaces, log -> log.row(0, 101));
        dueKept(ARGUMENT, Due::fullPlaces, log -> log.row(0, -101));
    }

    @Sentence(promise = 17, says = "(each below the one before)")
    static void refusedRowIsNotTheOneBefore() {
        PeelRibbons x = new PeelRibbons(1, 1);
        x.row(500, 0);
        due(ARGUMENT, () -> x.row(100, 101));
        due(true, () -> x.row(499, 0));
        PeelRibbons full = fullPlaces();
        due(false, () -> full.row(100, 0));
        due(false, () -> full.row(199, 0));
    }

    @Sentence(promise = 18, says = "the ANGLE at a radius is that of the last row whose radius is not below it")
    static void knifeGoesByTheLastRow() {
        PeelRibbons x = new PeelRibbons(1, 1);
        x.row(500, 1);
        due(1001, () -> x.knife(0));
        x.row(200, 2);
        x.row(0, 3);
        due(1001, () -> x.knife(500));
        due(1001, () -> x.knife(201));
        due(1002, () -> x.knife(200));
        due(1002, () -> x.knife(1));
        due(1003, () -> x.knife(0));
    }

    @Sentence(promise = 18, says = "NONE without one")
    static void knifeAboveAllRows() {
        PeelRibbons x = new PeelRibbons(1, 1);
        due(-1, () -> x.knife(0));
        due(-1, () -> x.knife(1000));
        x.row(500, 1);
        due(-1, () -> x.knife(501));
        due(-1, () -> x.knife(1000));
        due(1001, () -> x.knife(500));
        PeelRibbons highest = new PeelRibbons(1, 1);
        highest.row(1000, 1);
        due(1001, () -> highest.knife(1000));
    }

    @Sentence(promise = 18, says = "The ANGLE at a radius, plus 1000")
    static void knifeAddsThousand() {
        PeelRibbons x = new PeelRibbons(1, 1);
        x.row(3, -100);
        x.row(2, -1);
        x.row(1, 0);
        x.row(0, 100);
        due(900, () -> x.knife(3));
        due(999, () -> x.knife(2));
        due(1000, () -> x.knife(1));
        due(1100, () -> x.knife(0));
    }

    @Sentence(promise = 18, says = "radius is not 0 .. 1000")
    static void radiusOfKnife() {
        due(NONE, () -> busyLog().knife(1000));
        due(995, () -> busyLog().knife(0));
        for (int radius : new int[] {LEAST, -1, 1001, MOST}) {
            dueKept(ARGUMENT, Due::busyLog, log -> log.knife(radius));
            due(ARGUMENT, () -> new PeelRibbons(1, 1).knife(radius));
        }
    }

    @Sentence(promise = 18, says = "ROWS of the knife, 8 at most")
    static void knifeWithAllRows() {
        PeelRibbons x = fullPlaces();
        due(NONE, () -> x.knife(901));
        for (int k = 0; k < 8; k++) {
            int row = k;
            due(1000 + row, () -> x.knife(900 - row * 100));
            due(1000 + row, () -> x.knife(801 - row * 100));
        }
        due(1007, () -> x.knife(0));
    }
}
