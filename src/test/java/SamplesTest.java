/** Promises 1 to 6: a new object, pass, tell, series, find, growth. */
public final class SamplesTest {
    private static final Checks c = new Checks();

    public static void main(String[] args) {
        promise1NewObject();
        promise2Pass();
        promise3Tell();
        promise3Limits();
        promise4Series();
        promise5Find();
        promise6Growth();
        promise6GrowthBeyondInts();
        c.end();
    }

    private static void promise1NewObject() {
        SeriesMarks x = new SeriesMarks();
        for (int what = 0; what <= 4; what++) {
            c.due("new: count(" + what + ")", x.count(what), 0);
        }
        for (int mark = 0; mark < 6; mark++) {
            c.due("new: dropped", x.dropped(mark, 0), 0);
            c.due("new: weight", x.weigh(false, mark, 0), 0);
            for (int value = 0; value < 8; value++) {
                c.due("new: chief", x.chief(mark, value, 0), value);
            }
        }
        c.due("new: series(0, 0)", x.series(0, 0), SeriesMarks.UNKNOWN);
        c.due("new: works(0, 0, 0)", x.works(0, 0, 0), SeriesMarks.UNKNOWN);
        c.due("new: seen(0, 0)", x.seen(0, 0), 0);
        c.due("new: kept(0, 0)", x.kept(0, 0), 0);
        SeriesMarks other = new SeriesMarks();
        x.tell(1, 1);
        x.pass(3);
        c.due("another object: series", other.count(1), 0);
        c.due("another object: tick", other.count(0), 0);
    }

    private static void promise2Pass() {
        SeriesMarks x = new SeriesMarks();
        c.due("pass(0)", x.pass(0), SeriesMarks.OUTSIDE);
        c.due("pass(-1)", x.pass(-1), SeriesMarks.OUTSIDE);
        c.due("pass(200)", x.pass(200), SeriesMarks.OUTSIDE);
        c.due("pass(max)", x.pass(Integer.MAX_VALUE), SeriesMarks.OUTSIDE);
        c.due("pass(min)", x.pass(Integer.MIN_VALUE), SeriesMarks.OUTSIDE);
        c.due("refused: tick", x.count(0), 0);
        c.due("pass(1)", x.pass(1), 1);
        c.due("pass(199) at 1", x.pass(199), SeriesMarks.FULL);
        c.due("pass(200) at 1", x.pass(200), SeriesMarks.OUTSIDE);
        c.due("pass(198)", x.pass(198), 199);
        c.due("pass(1) at 199", x.pass(1), SeriesMarks.FULL);
        c.due("refused: tick", x.count(0), 199);
        c.due("tell at the last tick", x.tell(5, 5), 0);
    }

    private static void promise3Tell() {
        SeriesMarks x = new SeriesMarks();
        c.due("tell(-1, 0)", x.tell(-1, 0), SeriesMarks.OUTSIDE);
        c.due("tell(262144, 0)", x.tell(262144, 0), SeriesMarks.OUTSIDE);
        c.due("tell(0, -1)", x.tell(0, -1), SeriesMarks.OUTSIDE);
        c.due("tell(0, 1000000001)", x.tell(0, 1000000001), SeriesMarks.OUTSIDE);
        c.due("refused: series", x.count(1), 0);
        c.due("refused: samples", x.count(2), 0);
        c.due("tell(262143, 0)", x.tell(262143, 0), 0);
        c.due("tell(0, 1000000000)", x.tell(0, 1000000000), 1);
        c.due("tell(262143, 1) again", x.tell(262143, 1), SeriesMarks.STATE);
        c.due("tell(262143, -1) again", x.tell(262143, -1), SeriesMarks.OUTSIDE);
        c.due("refused: latest count", x.series(0, 2), 0);
        c.due("samples", x.count(2), 2);
        x.pass(1);
        c.due("tell(0, 3)", x.tell(0, 3), 1);
        c.due("tell(7, 3)", x.tell(7, 3), 2);
        c.due("series", x.count(1), 3);
        c.due("samples", x.count(2), 4);
    }

    private static void promise3Limits() {
        SeriesMarks x = new SeriesMarks();
        for (int i = 0; i < 120; i++) {
            c.due("tell of series " + i, x.tell(1000 + i, i), i);
        }
        c.due("121st series", x.tell(0, 0), SeriesMarks.FULL);
        c.due("121st series, wrong", x.tell(0, -1), SeriesMarks.OUTSIDE);
        c.due("a series of the 120 again", x.tell(1119, 0), SeriesMarks.STATE);
        c.due("refused: series", x.count(1), 120);
        x.pass(1);
        c.due("an old series", x.tell(1119, 4), 119);
        c.due("refused: find", x.find(0), SeriesMarks.NONE);
    }

    private static void promise4Series() {
        SeriesMarks x = new SeriesMarks();
        x.pass(3);
        x.tell(83, 10);
        x.pass(2);
        x.tell(84, 1);
        x.tell(83, 10);
        x.pass(4);
        x.tell(83, 9);
        x.pass(1);
        x.tell(83, 12);
        x.pass(1);
        x.tell(83, 0);
        x.pass(5);
        int[] due = {83, 5, 0, 3, 11, 2};
        for (int what = 0; what <= 5; what++) {
            c.due("series(0, " + what + ")", x.series(0, what), due[what]);
        }
        int[] dueOfOther = {84, 1, 1, 5, 5, 0};
        for (int what = 0; what <= 5; what++) {
            c.due("series(1, " + what + ")", x.series(1, what), dueOfOther[what]);
        }
        c.due("series(0, 6)", x.series(0, 6), SeriesMarks.OUTSIDE);
        c.due("series(0, -1)", x.series(0, -1), SeriesMarks.OUTSIDE);
        c.due("series(2, 0)", x.series(2, 0), SeriesMarks.UNKNOWN);
        c.due("series(-1, 0)", x.series(-1, 0), SeriesMarks.UNKNOWN);
        c.due("series(2, 6)", x.series(2, 6), SeriesMarks.UNKNOWN);
    }

    private static void promise5Find() {
        SeriesMarks x = new SeriesMarks();
        c.due("find(0) of none", x.find(0), SeriesMarks.NONE);
        x.tell(262143, 1);
        x.tell(0, 1);
        c.due("find(262143)", x.find(262143), 0);
        c.due("find(0)", x.find(0), 1);
        c.due("find(1)", x.find(1), SeriesMarks.NONE);
        c.due("find(-1)", x.find(-1), SeriesMarks.OUTSIDE);
        c.due("find(-9)", x.find(-9), SeriesMarks.OUTSIDE);
        c.due("find(262144)", x.find(262144), SeriesMarks.OUTSIDE);
        c.due("find tells no sample", x.count(2), 2);
    }

    private static void promise6Growth() {
        SeriesMarks x = new SeriesMarks();
        x.tell(1, 100);
        x.tell(2, 7);
        x.pass(1);
        x.tell(1, 130);
        x.pass(1);
        x.tell(1, 20);
        x.pass(1);
        x.tell(1, 20);
        x.pass(1);
        c.due("first sample", x.growth(0, 0, 0), 100);
        c.due("by the one before the span", x.growth(0, 1, 1), 30);
        c.due("began again", x.growth(0, 2, 2), 20);
        c.due("the same count", x.growth(0, 3, 3), 0);
        c.due("no sample", x.growth(0, 4, 4), 0);
        c.due("all", x.growth(0, 0, 4), 150);
        c.due("the other", x.growth(1, 0, 4), 7);
        c.due("growth(2, 0, 0)", x.growth(2, 0, 0), SeriesMarks.UNKNOWN);
        c.due("growth(-1, 0, 0)", x.growth(-1, 0, 0), SeriesMarks.UNKNOWN);
        c.due("growth(2, 5, 5)", x.growth(2, 5, 5), SeriesMarks.UNKNOWN);
        c.due("growth(0, 0, 5)", x.growth(0, 0, 5), SeriesMarks.OUTSIDE);
        c.due("growth(0, -1, 0)", x.growth(0, -1, 0), SeriesMarks.OUTSIDE);
        c.due("growth(0, 2, 1)", x.growth(0, 2, 1), SeriesMarks.OUTSIDE);
    }

    private static void promise6GrowthBeyondInts() {
        SeriesMarks x = new SeriesMarks();
        long sum = 0;
        for (int i = 0; i < 100; i++) {
            int count = 1000000000 - i;
            x.tell(9, count);
            sum += count;
            x.pass(1);
        }
        c.due("a hundred new beginnings", x.growth(0, 0, 100), sum);
        c.due("how often", x.series(0, 5), 99);
    }
}
