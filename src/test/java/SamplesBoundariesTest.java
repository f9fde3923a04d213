/** The boundary cases of promises 1 to 6: a new object, pass, tell, series, find, growth. */
public final class SamplesBoundariesTest {
    private static final Checks c = new Checks();
    private static final int LAST_NAME = 262143;
    private static final int MOST = 1000000000;

    public static void main(String[] args) {
        promise1Empty();
        promise1NothingShared();
        promise2TooSmallTooLarge();
        promise2Full();
        promise3TooSmallTooLarge();
        promise3EndsOfNamesAndCounts();
        promise3StateAtTheTickAlone();
        promise3FullOfSeries();
        promise4Unknown();
        promise4Outside();
        promise4OneSample();
        promise5None();
        promise5Outside();
        promise6Unknown();
        promise6NoSpan();
        promise6Empty();
        c.end();
    }

    private static void promise1Empty() {
        SeriesMarks x = new SeriesMarks();
        for (int what = 0; what <= 4; what++) {
            c.due("count(" + what + ")", x.count(what), 0);
        }
        for (int what = 0; what <= 5; what++) {
            c.due("series(0, " + what + ")", x.series(0, what), SeriesMarks.UNKNOWN);
        }
        for (int mark = 0; mark < 6; mark++) {
            c.due("dropped", x.dropped(mark, 0), 0);
            c.due("values", x.values(mark, 0, 0), 0);
            c.due("bill", x.bill(mark, 0, 0, 0), 0);
        }
        c.due("find", x.find(0), SeriesMarks.NONE);
        c.due("seen", x.seen(0, 0), 0);
        c.due("unlike, none put to 0", x.unlike(0, 0, 0), 0);
        c.due("unlike, all put to 0", x.unlike(63, 0, 0), 0);
        c.due("kept", x.kept(0, 0), 0);
        c.due("worst", x.worst(0, 0), 0);
        c.due("shortAt", x.shortAt(LAST_NAME, 0), LAST_NAME);
        c.due("works", x.works(0, 0, 0), SeriesMarks.UNKNOWN);
        c.due("weigh of an asking", x.weigh(true, 0, 0), SeriesMarks.UNKNOWN);
        c.due("loss", x.loss(63), 0);
        c.due("plan", x.plan(0, 0, 0), 0);
    }

    private static void promise1NothingShared() {
        SeriesMarks x = new SeriesMarks();
        SeriesMarks y = new SeriesMarks();
        x.tell(LAST_NAME, 1);
        x.ask(63, SeriesMarks.NONE, 0);
        x.drop(0, true);
        x.fold(1, 0, 7);
        x.weigh(false, 2, 9);
        x.pass(9);
        SeriesMarks[] others = {y, new SeriesMarks()};
        for (SeriesMarks other : others) {
            for (int what = 0; what <= 4; what++) {
                c.due("another: count(" + what + ")", other.count(what), 0);
            }
            c.due("another: chief", other.chief(1, 7, 0), 7);
            c.due("another: loss", other.loss(63), 0);
            c.due("another: seen", other.seen(0, 0), 0);
        }
    }

    private static void promise2TooSmallTooLarge() {
        SeriesMarks x = new SeriesMarks();
        Edges.refuses(c, "pass at 0", 1, 199, SeriesMarks.OUTSIDE, x::pass);
        c.due("the tick after them", x.count(0), 0);
        c.due("the least", x.pass(1), 1);
        Edges.refuses(c, "pass at 1", 1, 199, SeriesMarks.OUTSIDE, x::pass);
        c.due("the tick after them", x.count(0), 1);
        c.due("the most", new SeriesMarks().pass(199), 199);
    }

    private static void promise2Full() {
        SeriesMarks x = new SeriesMarks();
        x.pass(100);
        c.due("one too many", x.pass(100), SeriesMarks.FULL);
        c.due("as many as can be, too many", x.pass(199), SeriesMarks.FULL);
        c.due("no tick went by", x.seen(0, 101), SeriesMarks.OUTSIDE);
        c.due("just enough", x.pass(99), 199);
        for (int n = 1; n <= 199; n += 33) {
            c.due("pass(" + n + ") at the last tick", x.pass(n), SeriesMarks.FULL);
        }
        c.due("a sample at the last tick", x.tell(5, 5), 0);
        c.due("no tick behind the last", x.seen(0, 200), SeriesMarks.OUTSIDE);
    }

    private static void promise3TooSmallTooLarge() {
        SeriesMarks x = new SeriesMarks();
        Edges.refuses(c, "tell, name", 0, LAST_NAME, SeriesMarks.OUTSIDE, name -> x.tell(name, 0));
        Edges.refuses(c, "tell, count", 0, MOST, SeriesMarks.OUTSIDE, count -> x.tell(0, count));
        c.due("series after them", x.count(1), 0);
        c.due("samples after them", x.count(2), 0);
    }

    private static void promise3EndsOfNamesAndCounts() {
        SeriesMarks x = new SeriesMarks();
        c.due("the greatest name, the least count", x.tell(LAST_NAME, 0), 0);
        c.due("the least name, the greatest count", x.tell(0, MOST), 1);
        c.due("its name", x.series(0, 0), LAST_NAME);
        c.due("its count", x.series(0, 2), 0);
        c.due("its name", x.series(1, 0), 0);
        c.due("its count", x.series(1, 2), MOST);
    }

    private static void promise3StateAtTheTickAlone() {
        SeriesMarks x = new SeriesMarks();
        x.tell(8, 3);
        c.due("again, another count", x.tell(8, 4), SeriesMarks.STATE);
        c.due("again, the same count", x.tell(8, 3), SeriesMarks.STATE);
        c.due("another name", x.tell(1, 3), 1);
        c.due("the first, not told last", x.tell(8, 3), SeriesMarks.STATE);
        x.pass(1);
        c.due("at the next tick", x.tell(8, 3), 0);
        c.due("again there", x.tell(8, 3), SeriesMarks.STATE);
        x.pass(198);
        c.due("at the last tick", x.tell(8, 3), 0);
        c.due("again there", x.tell(8, 3), SeriesMarks.STATE);
        c.due("samples", x.series(0, 1), 3);
    }

    private static void promise3FullOfSeries() {
        SeriesMarks x = new SeriesMarks();
        for (int i = 0; i < 119; i++) {
            x.tell(LAST_NAME - i, i);
        }
        c.due("the 120th", x.tell(0, 0), 119);
        c.due("the 121st", x.tell(1, 0), SeriesMarks.FULL);
        c.due("series", x.count(1), 120);
        c.due("samples", x.count(2), 120);
        c.due("the 121st is not there", x.find(1), SeriesMarks.NONE);
        c.due("nor by number", x.series(120, 0), SeriesMarks.UNKNOWN);
        c.due("the 120th by number", x.series(119, 0), 0);
        x.pass(1);
        c.due("the 121st at the next tick", x.tell(1, 0), SeriesMarks.FULL);
        c.due("the first of the 120", x.tell(LAST_NAME, 0), 0);
        c.due("the last of the 120", x.tell(0, 0), 119);
        c.due("all are seen", x.seen(0, 1), 120);
    }

    private static void promise4Unknown() {
        SeriesMarks x = new SeriesMarks();
        Edges.refuses(c, "series of none", 0, -1, SeriesMarks.UNKNOWN, i -> x.series(i, 0));
        x.tell(8, 3);
        x.tell(9, 4);
        Edges.refuses(c, "series of two", 0, 1, SeriesMarks.UNKNOWN, i -> x.series(i, 0));
        c.due("the first", x.series(0, 0), 8);
        c.due("the last", x.series(1, 0), 9);
    }

    private static void promise4Outside() {
        SeriesMarks x = new SeriesMarks();
        x.tell(8, 3);
        Edges.refuses(c, "series, what", 0, 5, SeriesMarks.OUTSIDE, what -> x.series(0, what));
    }

    private static void promise4OneSample() {
        SeriesMarks x = new SeriesMarks();
        x.pass(199);
        x.tell(8, 0);
        int[] due = {8, 1, 0, 199, 199, 0};
        for (int what = 0; what <= 5; what++) {
            c.due("series(0, " + what + ")", x.series(0, what), due[what]);
        }
    }

    private static void promise5None() {
        SeriesMarks x = new SeriesMarks();
        c.due("of no series", x.find(0), SeriesMarks.NONE);
        c.due("of no series", x.find(LAST_NAME), SeriesMarks.NONE);
        x.tell(LAST_NAME, 0);
        c.due("the greatest name", x.find(LAST_NAME), 0);
        c.due("the one below", x.find(LAST_NAME - 1), SeriesMarks.NONE);
        c.due("the least name", x.find(0), SeriesMarks.NONE);
        x.tell(0, 0);
        c.due("the least name, told", x.find(0), 1);
        x.tell(1, -1);
        c.due("a name whose sample was refused", x.find(1), SeriesMarks.NONE);
    }

    private static void promise5Outside() {
        SeriesMarks x = new SeriesMarks();
        x.tell(0, 0);
        Edges.refuses(c, "find", 0, LAST_NAME, SeriesMarks.OUTSIDE, x::find);
    }

    private static void promise6Unknown() {
        SeriesMarks x = new SeriesMarks();
        Edges.refuses(c, "growth of none", 0, -1, SeriesMarks.UNKNOWN, i -> x.growth(i, 0, 0));
        x.tell(8, 3);
        x.tell(9, 4);
        Edges.refuses(c, "growth of two", 0, 1, SeriesMarks.UNKNOWN, i -> x.growth(i, 0, 0));
        c.due("the last", x.growth(1, 0, 0), 4);
    }

    private static void promise6NoSpan() {
        int[] ticks = {0, 1, 42, 199};
        for (int tick : ticks) {
            SeriesMarks x = new SeriesMarks();
            x.tell(8, 3);
            x.pass(tick);
            Edges.refusesNoSpan(c, "growth at " + tick, tick, (from, to) -> x.growth(0, from, to));
        }
    }

    private static void promise6Empty() {
        SeriesMarks x = new SeriesMarks();
        x.pass(1);
        x.tell(8, 3);
        x.pass(1);
        c.due("ahead of all samples", x.growth(0, 0, 0), 0);
        c.due("behind all samples", x.growth(0, 2, 2), 0);
        c.due("all", x.growth(0, 0, 2), 3);
    }
}
