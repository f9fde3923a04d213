/** Promises 12 to 16: drop, fold, dropped, chief, shortAt. */
public final class DroppedFoldedTest {
    private static final Checks c = new Checks();

    public static void main(String[] args) {
        promise12Drop();
        promise13Fold();
        promise14Dropped();
        promise15Chief();
        promise16ShortAt();
        c.end();
    }

    private static void promise12Drop() {
        SeriesMarks x = new SeriesMarks();
        c.due("drop(3, true)", x.drop(3, true), 0);
        c.due("drop(3, true) again", x.drop(3, true), 1);
        c.due("drop(4, true)", x.drop(4, true), 0);
        c.due("dropped now", x.count(4), 2);
        x.pass(1);
        c.due("drop(3, false) later", x.drop(3, false), 1);
        c.due("drop(3, false) again", x.drop(3, false), 0);
        c.due("dropped now", x.count(4), 1);
        c.due("drop(6, true)", x.drop(6, true), SeriesMarks.UNKNOWN);
        c.due("drop(-1, true)", x.drop(-1, true), SeriesMarks.UNKNOWN);
        c.due("drop(35, true)", x.drop(35, true), SeriesMarks.UNKNOWN);
        c.due("refused: dropped now", x.count(4), 1);
    }

    private static void promise13Fold() {
        SeriesMarks x = new SeriesMarks();
        c.due("fold(2, 6, 7)", x.fold(2, 6, 7), 6);
        c.due("fold(2, 4, 5)", x.fold(2, 4, 5), 4);
        c.due("fold of both pairs", x.fold(2, 7, 5), 4);
        c.due("fold again", x.fold(2, 6, 5), 4);
        c.due("fold with a lower one", x.fold(2, 1, 7), 1);
        int[] due = {0, 1, 2, 3, 1, 1, 1, 1};
        for (int value = 0; value < 8; value++) {
            c.due("chief(2, " + value + ", 0)", x.chief(2, value, 0), due[value]);
            c.due("chief(1, " + value + ", 0)", x.chief(1, value, 0), value);
        }
        x.pass(1);
        c.due("fold with what was folded before", x.fold(2, 2, 6), 1);
        c.due("fold of what was folded before", x.fold(2, 7, 3), 1);
        c.due("all that were together", x.chief(2, 5, 1), 1);
        c.due("the new one", x.chief(2, 3, 1), 1);
        c.due("not before", x.chief(2, 3, 0), 3);
        x = new SeriesMarks();
        x.fold(2, 1, 7);
        c.due("fold(2, 3, 3)", x.fold(2, 3, 3), 3);
        c.due("fold(2, 7, 7)", x.fold(2, 7, 7), 1);
        c.due("fold(5, 7, 0)", x.fold(5, 7, 0), 0);
        int[][] wrong = {{6, 0, 1}, {-1, 0, 1}, {0, -1, 1}, {0, 8, 1}, {0, 1, -1}, {0, 1, 8}};
        for (int[] w : wrong) {
            c.due("a fold of what is not there", x.fold(w[0], w[1], w[2]), SeriesMarks.UNKNOWN);
        }
        c.due("refused: chief(0, 1, 0)", x.chief(0, 1, 0), 1);
    }

    private static void promise14Dropped() {
        SeriesMarks x = new SeriesMarks();
        x.pass(2);
        x.drop(1, true);
        x.pass(3);
        x.drop(1, false);
        x.pass(1);
        x.drop(1, true);
        x.drop(1, false);
        x.drop(2, false);
        x.drop(2, true);
        int[] due = {0, 0, 1, 1, 1, 0, 0};
        for (int tick = 0; tick <= 6; tick++) {
            c.due("dropped(1, " + tick + ")", x.dropped(1, tick), due[tick]);
            c.due("dropped(0, " + tick + ")", x.dropped(0, tick), 0);
        }
        c.due("dropped(2, 6)", x.dropped(2, 6), 1);
        c.due("dropped(2, 5)", x.dropped(2, 5), 0);
        c.due("dropped(1, 7)", x.dropped(1, 7), SeriesMarks.OUTSIDE);
        c.due("dropped(1, -1)", x.dropped(1, -1), SeriesMarks.OUTSIDE);
        c.due("dropped(6, 0)", x.dropped(6, 0), SeriesMarks.UNKNOWN);
        c.due("dropped(-1, 7)", x.dropped(-1, 7), SeriesMarks.UNKNOWN);
    }

    private static void promise15Chief() {
        SeriesMarks x = new SeriesMarks();
        x.pass(1);
        x.fold(0, 5, 6);
        x.pass(2);
        x.fold(0, 6, 2);
        x.pass(1);
        int[] dueOf6 = {6, 5, 5, 2, 2};
        int[] dueOf5 = {5, 5, 5, 2, 2};
        for (int tick = 0; tick <= 4; tick++) {
            c.due("chief(0, 6, " + tick + ")", x.chief(0, 6, tick), dueOf6[tick]);
            c.due("chief(0, 5, " + tick + ")", x.chief(0, 5, tick), dueOf5[tick]);
            c.due("chief(0, 2, " + tick + ")", x.chief(0, 2, tick), 2);
            c.due("chief(0, 7, " + tick + ")", x.chief(0, 7, tick), 7);
        }
        x.drop(0, true);
        c.due("the chief of a dropped one", x.chief(0, 6, 4), 2);
        c.due("chief(6, 0, 0)", x.chief(6, 0, 0), SeriesMarks.UNKNOWN);
        c.due("chief(-1, 0, 0)", x.chief(-1, 0, 0), SeriesMarks.UNKNOWN);
        c.due("chief(0, 8, 0)", x.chief(0, 8, 0), SeriesMarks.UNKNOWN);
        c.due("chief(0, -1, 9)", x.chief(0, -1, 9), SeriesMarks.UNKNOWN);
        c.due("chief(0, 0, 5)", x.chief(0, 0, 5), SeriesMarks.OUTSIDE);
        c.due("chief(0, 0, -1)", x.chief(0, 0, -1), SeriesMarks.OUTSIDE);
    }

    private static void promise16ShortAt() {
        SeriesMarks x = new SeriesMarks();
        c.due("long", x.shortAt(0765432, 0), 0765432);
        x.pass(1);
        x.drop(5, true);
        x.fold(0, 2, 1);
        x.pass(1);
        x.fold(5, 7, 3);
        x.drop(3, true);
        x.pass(1);
        x.drop(5, false);
        x.drop(3, false);
        x.fold(1, 0, 3);
        c.due("at 0", x.shortAt(0765432, 0), 0765432);
        c.due("at 1", x.shortAt(0765432, 1), 0065431);
        c.due("at 2", x.shortAt(0765432, 2), 0060431);
        c.due("at 3", x.shortAt(0765432, 3), 0365401);
        c.due("of a series that is not there", x.shortAt(0, 3), 0);
        c.due("shortAt(-1, 0)", x.shortAt(-1, 0), SeriesMarks.OUTSIDE);
        c.due("shortAt(262144, 0)", x.shortAt(262144, 0), SeriesMarks.OUTSIDE);
        c.due("shortAt(0, 4)", x.shortAt(0, 4), SeriesMarks.OUTSIDE);
        c.due("shortAt(0, -1)", x.shortAt(0, -1), SeriesMarks.OUTSIDE);
        c.due("shortAt(262143, 3)", x.shortAt(262143, 3), 0377777);
    }
}
