/** The boundary cases of "Terms", parts 1, 2 and 3, each sentence in a test of its own. */
public final class BoundariesOfTermsTest {
    private static final Checks c = new Checks();

    public static void main(String[] args) {
        longsBeyondInts();
        refusalsToldAsLongs();
        tickIsZeroAtFirstAnd199AtMost();
        valuesAreOctalDigits();
        seriesAreNumberedAsTheyCome();
        growthNotBelow();
        growthBelow();
        growthOfTheFirst();
        growthByASampleAheadOfTheSpan();
        seenAtTheEndsOfASpan();
        keptAtFirst();
        droppedFromATickOn();
        foldedFromATickOnForGood();
        chiefIsTheLeastOfAll();
        shortOfDroppedAndFolded();
        toldBehindOrAheadOfASample();
        askingPartsByNoneAndByAll();
        worksWithFoldedValues();
        weightsAndWorthsAreZeroAtFirst();
        plansLookAtNoFoldsAndNothingDropped();
        c.end();
    }

    /** The largest sum of one series: a new beginning at every tick but the first. */
    private static void longsBeyondInts() {
        SeriesMarks x = new SeriesMarks();
        long sum = 0;
        for (int tick = 0; tick <= 199; tick++) {
            x.tell(0777777, 1000000000 - tick);
            sum += 1000000000 - tick;
            x.pass(1);
        }
        x.ask(0, SeriesMarks.NONE, 0);
        c.due("growth at 200 ticks", x.growth(0, 0, 199), sum);
        c.due("answer at 200 ticks", x.answer(0, 0, 0, 199), sum);
        c.due("just within ints", x.growth(0, 198, 199), 999999802L + 999999801L);
        c.due("just beyond ints", x.growth(0, 197, 199), 999999803L + 999999802L + 999999801L);
    }

    private static void refusalsToldAsLongs() {
        SeriesMarks x = new SeriesMarks();
        c.due("growth: UNKNOWN", x.growth(0, 0, 0), -1L);
        c.due("answer: UNKNOWN", x.answer(0, 0, 0, 0), -1L);
        x.tell(0, 0);
        x.ask(0, SeriesMarks.NONE, 0);
        c.due("growth: OUTSIDE", x.growth(0, 0, 1), -2L);
        c.due("answer: OUTSIDE", x.answer(0, 1, 0, 0), -2L);
    }

    private static void tickIsZeroAtFirstAnd199AtMost() {
        SeriesMarks x = new SeriesMarks();
        c.due("at first", x.count(0), 0);
        for (int tick = 1; tick <= 199; tick++) {
            c.due("one by one", x.pass(1), tick);
        }
        c.due("one more", x.pass(1), SeriesMarks.FULL);
        c.due("at most", x.count(0), 199);
    }

    private static void valuesAreOctalDigits() {
        for (int mark = 0; mark < 6; mark++) {
            SeriesMarks x = new SeriesMarks();
            x.tell(7 << (3 * mark), 0);
            for (int other = 0; other < 6; other++) {
                c.due("mark " + other + " has 7", x.bill(other, 7, 0, 0), other == mark ? 1 : 0);
                c.due("mark " + other + " has 0", x.bill(other, 0, 0, 0), other == mark ? 0 : 1);
            }
        }
    }

    private static void seriesAreNumberedAsTheyCome() {
        SeriesMarks x = new SeriesMarks();
        c.due("the first", x.tell(0777777, 5), 0);
        c.due("refused: no number is used up", x.tell(0777777, 5), SeriesMarks.STATE);
        c.due("refused: no number is used up", x.tell(01000000, 5), SeriesMarks.OUTSIDE);
        c.due("refused: no number is used up", x.tell(3, -1), SeriesMarks.OUTSIDE);
        c.due("the second", x.tell(0, 5), 1);
        x.pass(1);
        c.due("the third, at a later tick", x.tell(3, 5), 2);
        c.due("the first again", x.tell(0777777, 5), 0);
    }

    private static void growthNotBelow() {
        SeriesMarks x = new SeriesMarks();
        int[] counts = {0, 0, 1, 1, 1000000000, 1000000000};
        int[] due = {0, 0, 1, 0, 999999999, 0};
        for (int tick = 0; tick < counts.length; tick++) {
            x.tell(0, counts[tick]);
            c.due("growth by sample " + tick, x.growth(0, tick, tick), due[tick]);
            x.pass(1);
        }
        c.due("never began again", x.series(0, 5), 0);
    }

    private static void growthBelow() {
        SeriesMarks x = new SeriesMarks();
        int[] counts = {1000000000, 999999999, 0, 0, 1, 0, 2, 1};
        int[] due = {1000000000, 999999999, 0, 0, 1, 0, 2, 1};
        int[] dueAgain = {0, 1, 2, 2, 2, 3, 3, 4};
        for (int tick = 0; tick < counts.length; tick++) {
            x.tell(0, counts[tick]);
            c.due("growth by sample " + tick, x.growth(0, tick, tick), due[tick]);
            c.due("began again by sample " + tick, x.series(0, 5), dueAgain[tick]);
            x.pass(1);
        }
    }

    private static void growthOfTheFirst() {
        int[] counts = {0, 1, 1000000000};
        for (int count : counts) {
            SeriesMarks x = new SeriesMarks();
            x.pass(7);
            x.tell(1, 3);
            x.tell(0, count);
            c.due("growth by the first sample", x.growth(1, 0, 7), count);
            c.due("the first is no new beginning", x.series(1, 5), 0);
        }
    }

    private static void growthByASampleAheadOfTheSpan() {
        SeriesMarks x = new SeriesMarks();
        x.tell(0, 90);
        x.pass(10);
        x.tell(0, 100);
        x.pass(10);
        x.tell(0, 99);
        c.due("the one before is ahead of the span", x.growth(0, 1, 10), 10);
        c.due("began again, the one before is ahead of the span", x.growth(0, 11, 20), 99);
        c.due("a span up to the tick ahead of it", x.growth(0, 1, 9), 0);
        c.due("a span from its tick", x.growth(0, 10, 19), 10);
        c.due("a span from the tick behind it", x.growth(0, 11, 19), 0);
    }

    private static void seenAtTheEndsOfASpan() {
        SeriesMarks x = new SeriesMarks();
        x.pass(5);
        x.tell(0, 0);
        x.pass(5);
        c.due("ends at its tick", x.seen(0, 5), 1);
        c.due("begins at its tick", x.seen(5, 10), 1);
        c.due("is its tick", x.seen(5, 5), 1);
        c.due("ends ahead of it", x.seen(0, 4), 0);
        c.due("begins behind it", x.seen(6, 10), 0);
    }

    private static void keptAtFirst() {
        SeriesMarks x = new SeriesMarks();
        x.pass(199);
        for (int mark = 0; mark < 6; mark++) {
            c.due("kept at 0", x.dropped(mark, 0), 0);
            c.due("kept at 199", x.dropped(mark, 199), 0);
        }
        c.due("a name is as long as it was", x.shortAt(0777777, 199), 0777777);
    }

    private static void droppedFromATickOn() {
        SeriesMarks x = new SeriesMarks();
        x.drop(0, true);
        x.pass(99);
        x.drop(0, false);
        x.drop(5, true);
        x.pass(100);
        x.drop(1, true);
        int[][] due = {{0, 0, 1}, {0, 98, 1}, {0, 99, 0}, {0, 199, 0}, {5, 98, 0}, {5, 99, 1}, {5, 199, 1}, {1, 198, 0},
            {1, 199, 1}};
        for (int[] d : due) {
            c.due("dropped(" + d[0] + ", " + d[1] + ")", x.dropped(d[0], d[1]), d[2]);
        }
    }

    private static void foldedFromATickOnForGood() {
        SeriesMarks x = new SeriesMarks();
        x.fold(0, 6, 7);
        x.pass(100);
        x.fold(0, 7, 0);
        x.drop(0, true);
        x.pass(1);
        x.drop(0, false);
        x.pass(98);
        x.fold(5, 0, 7);
        int[][] due = {{0, 0, 6}, {0, 99, 6}, {0, 100, 0}, {0, 101, 0}, {0, 199, 0}, {5, 198, 7}, {5, 199, 0}};
        for (int[] d : due) {
            c.due("chief(" + d[0] + ", 7, " + d[1] + ")", x.chief(d[0], 7, d[1]), d[2]);
        }
    }

    private static void chiefIsTheLeastOfAll() {
        SeriesMarks x = new SeriesMarks();
        for (int value = 7; value > 0; value--) {
            c.due("down to " + (value - 1), x.fold(3, value, value - 1), value - 1);
        }
        for (int value = 0; value < 8; value++) {
            c.due("all are together: chief of " + value, x.chief(3, value, 0), 0);
            c.due("of another mark each is its own: " + value, x.chief(2, value, 0), value);
        }
        c.due("nothing is left to be folded", x.fold(3, 7, 6), 0);
    }

    private static void shortOfDroppedAndFolded() {
        SeriesMarks x = new SeriesMarks();
        x.fold(0, 7, 5);
        x.drop(0, true);
        c.due("dropped goes ahead of folded", x.shortAt(0777, 0), 0770);
        x.pass(1);
        x.drop(0, false);
        c.due("kept again, still folded", x.shortAt(0777, 1), 0775);
        c.due("as it was then", x.shortAt(0777, 0), 0770);
        for (int mark = 0; mark < 6; mark++) {
            x.drop(mark, true);
        }
        c.due("all are dropped", x.shortAt(0777777, 1), 0);
    }

    private static void toldBehindOrAheadOfASample() {
        SeriesMarks x = new SeriesMarks();
        x.tell(1, 0);
        x.tell(2, 0);
        x.drop(0, true);
        c.due("told behind the samples", x.kept(0, 0), 1);
        x.drop(0, false);
        c.due("taken back at the same tick", x.kept(0, 0), 2);
        x.fold(0, 2, 1);
        c.due("folded behind the samples", x.kept(0, 0), 1);
        x.drop(0, true);
        x.pass(1);
        x.drop(0, false);
        c.due("what a later tick tells is not for this one", x.shortAt(1, 0), 0);
        x.tell(2, 0);
        c.due("told ahead of the sample", x.kept(1, 1), 1);
        c.due("short otherwise at the two ticks", x.kept(0, 1), 2);
    }

    private static void askingPartsByNoneAndByAll() {
        SeriesMarks x = new SeriesMarks();
        x.tell(0, 1);
        x.tell(0777777, 2);
        x.ask(0, SeriesMarks.NONE, 0);
        x.ask(63, SeriesMarks.NONE, 0);
        x.ask(63, 5, 7);
        x.ask(63, 0, 0);
        c.due("by none: all together", x.answer(0, 0, 0, 0), 3);
        c.due("by all: one alone", x.answer(1, 0777777, 0, 0), 2);
        c.due("the value wanted 7", x.answer(2, 0777777, 0, 0), 2);
        c.due("another than the value wanted 7", x.answer(2, 0, 0, 0), SeriesMarks.OUTSIDE);
        c.due("the value wanted 0", x.answer(3, 0, 0, 0), 1);
        c.due("another than the value wanted 0", x.answer(3, 0777777, 0, 0), SeriesMarks.OUTSIDE);
    }

    private static void worksWithFoldedValues() {
        for (int mark = 0; mark < 6; mark++) {
            SeriesMarks x = new SeriesMarks();
            x.ask(1 << mark, SeriesMarks.NONE, 0);
            x.ask(63 - (1 << mark), SeriesMarks.NONE, 0);
            x.pass(1);
            x.fold(mark, 7, 6);
            x.pass(1);
            x.drop(mark, true);
            c.due("2 ahead of the fold", x.works(0, 0, 0), 2);
            c.due("1 if its last tick is folded", x.works(0, 0, 1), 1);
            c.due("0 if its last tick is dropped", x.works(0, 1, 2), 0);
            c.due("2 of all other marks", x.works(1, 0, 2), 2);
        }
    }

    private static void weightsAndWorthsAreZeroAtFirst() {
        SeriesMarks x = new SeriesMarks();
        c.due("loss of all at first", x.loss(63), 0);
        for (int i = 0; i < 10; i++) {
            x.ask(63, SeriesMarks.NONE, 0);
        }
        c.due("loss of all with askings", x.loss(63), 0);
        for (int i = 0; i < 10; i++) {
            c.due("worth at first", x.weigh(true, i, 1000), 0);
        }
        for (int mark = 0; mark < 6; mark++) {
            c.due("weight at first", x.weigh(false, mark, 1000), 0);
        }
        c.due("the greatest loss", x.loss(63), 16000);
        c.due("the loss of none", x.loss(0), 0);
    }

    private static void plansLookAtNoFoldsAndNothingDropped() {
        SeriesMarks x = new SeriesMarks();
        x.tell(0, 0);
        x.tell(7, 0);
        x.weigh(false, 0, 1);
        for (int mark = 0; mark < 6; mark++) {
            x.drop(mark, true);
        }
        x.fold(0, 0, 7);
        c.due("kept", x.kept(0, 0), 1);
        c.due("two are to be left, none need go", x.plan(2, 0, 0), 0);
        c.due("one is to be left", x.plan(1, 0, 0), 1);
        c.due("its loss", x.loss(1), 1);
    }
}
