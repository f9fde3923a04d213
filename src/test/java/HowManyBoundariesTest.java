/** The boundary cases of promises 7 to 11: seen, values, unlike, kept, worst. */
public final class HowManyBoundariesTest {
    private static final Checks c = new Checks();

    public static void main(String[] args) {
        promise7EmptyAndFull();
        promise7NoSpan();
        promise8Unknown();
        promise8NoSpan();
        promise8OneAndEight();
        promise9Outside();
        promise9NoSpan();
        promise9NoneAndAllPutToZero();
        promise9EveryMark();
        promise10NoSpan();
        promise10EmptyAndFull();
        promise10OneSeriesManyShortNames();
        promise11NoSpan();
        promise11OfLikeOnesTheLeast();
        promise11LastMark();
        c.end();
    }

    /** A sample at 0, 1 and the tick that is now, if these are not the same. */
    private static SeriesMarks at(int tick) {
        SeriesMarks x = new SeriesMarks();
        x.tell(1, 0);
        x.pass(1);
        x.tell(2, 0);
        x.pass(tick - 1);
        x.tell(3, 0);
        return x;
    }

    private static SeriesMarks withSeries(int many) {
        SeriesMarks x = new SeriesMarks();
        for (int i = 0; i < many; i++) {
            x.tell(i, 0);
        }
        return x;
    }

    private static void noSpans(String call, java.util.function.Function<SeriesMarks, Edges.OfSpan> of) {
        Edges.refusesNoSpan(c, call + " of a new one", 0, of.apply(new SeriesMarks()));
        Edges.refusesNoSpan(c, call + " at 42", 42, of.apply(at(42)));
        Edges.refusesNoSpan(c, call + " at 199", 199, of.apply(at(199)));
    }

    private static void promise7EmptyAndFull() {
        SeriesMarks x = withSeries(120);
        c.due("120 series", x.seen(0, 0), 120);
        x.tell(7777, 0);
        c.due("and none that was refused", x.seen(0, 0), 120);
        x.pass(1);
        c.due("none at the next tick", x.seen(1, 1), 0);
        x.tell(5, 0);
        c.due("one at both ticks is one", x.seen(0, 1), 120);
        c.due("one", x.seen(1, 1), 1);
    }

    private static void promise7NoSpan() {
        noSpans("seen", x -> x::seen);
    }

    private static void promise8Unknown() {
        SeriesMarks x = at(3);
        Edges.refuses(c, "values, mark", 0, 5, SeriesMarks.UNKNOWN, mark -> x.values(mark, 0, 3));
        c.due("mark 0", x.values(0, 0, 3), 3);
        c.due("mark 5", x.values(5, 0, 3), 1);
    }

    private static void promise8NoSpan() {
        noSpans("values", x -> (from, to) -> x.values(5, from, to));
    }

    private static void promise8OneAndEight() {
        for (int mark = 0; mark < 6; mark++) {
            SeriesMarks x = new SeriesMarks();
            c.due("of none seen", x.values(mark, 0, 0), 0);
            for (int value = 7; value >= 0; value--) {
                x.tell(value << (3 * mark), 0);
                c.due("one more", x.values(mark, 0, 0), 8 - value);
            }
            x.tell(1 << (3 * ((mark + 1) % 6)), 0);
            c.due("a value that was there", x.values(mark, 0, 0), 8);
            c.due("two of the next mark", x.values((mark + 1) % 6, 0, 0), 2);
        }
    }

    private static void promise9Outside() {
        SeriesMarks x = at(3);
        Edges.refuses(c, "unlike, marks", 0, 63, SeriesMarks.OUTSIDE, marks -> x.unlike(marks, 0, 3));
    }

    private static void promise9NoSpan() {
        noSpans("unlike", x -> (from, to) -> x.unlike(63, from, to));
    }

    private static void promise9NoneAndAllPutToZero() {
        SeriesMarks x = withSeries(120);
        c.due("none put to 0", x.unlike(0, 0, 0), 120);
        c.due("all put to 0", x.unlike(63, 0, 0), 1);
        c.due("those put to 0 that are 0", x.unlike(56, 0, 0), 120);
        x.pass(1);
        c.due("all put to 0 of none seen", x.unlike(63, 1, 1), 0);
    }

    private static void promise9EveryMark() {
        SeriesMarks x = new SeriesMarks();
        x.tell(0, 0);
        for (int mark = 0; mark < 6; mark++) {
            x.tell(7 << (3 * mark), 0);
        }
        for (int marks = 0; marks <= 63; marks++) {
            c.due("unlike(" + marks + ")", x.unlike(marks, 0, 0), 7 - Integer.bitCount(marks));
        }
    }

    private static void promise10NoSpan() {
        noSpans("kept", x -> x::kept);
    }

    private static void promise10EmptyAndFull() {
        SeriesMarks x = withSeries(120);
        c.due("all marks kept", x.kept(0, 0), 120);
        x.drop(5, true);
        c.due("a mark dropped that is 0", x.kept(0, 0), 120);
        for (int mark = 0; mark < 6; mark++) {
            x.drop(mark, true);
        }
        c.due("all marks dropped", x.kept(0, 0), 1);
        x.pass(1);
        c.due("none seen", x.kept(1, 1), 0);
    }

    /** 64 ticks, each with other marks dropped: one series has as many short names as a span has ticks. */
    private static void promise10OneSeriesManyShortNames() {
        SeriesMarks x = new SeriesMarks();
        for (int tick = 0; tick < 64; tick++) {
            for (int mark = 0; mark < 6; mark++) {
                boolean is = (tick >> mark & 1) == 1;
                boolean was = tick > 0 && ((tick - 1) >> mark & 1) == 1;
                if (is != was) {
                    x.drop(mark, is);
                }
            }
            x.tell(0777777, tick);
            x.pass(1);
        }
        c.due("one at each tick", x.kept(0, 63), 64);
        c.due("a part of them", x.kept(10, 20), 11);
        c.due("one alone", x.kept(63, 63), 1);
        c.due("none at the tick behind", x.kept(64, 64), 0);
        c.due("one series", x.seen(0, 64), 1);
    }

    private static void promise11NoSpan() {
        noSpans("worst", x -> x::worst);
    }

    private static void promise11OfLikeOnesTheLeast() {
        SeriesMarks x = new SeriesMarks();
        c.due("none seen", x.worst(0, 0), 0);
        x.tell(0, 0);
        c.due("one seen", x.worst(0, 0), 0);
        x.tell(01, 0);
        x.tell(0100000, 0);
        c.due("marks 0 and 5 are alike", x.worst(0, 0), 0);
        x.tell(010, 0);
        c.due("marks 0, 1 and 5 are alike", x.worst(0, 0), 0);
        x.tell(020, 0);
        c.due("mark 1 is worse", x.worst(0, 0), 1);
        x.tell(0200000, 0);
        c.due("marks 1 and 5 are alike", x.worst(0, 0), 1);
    }

    private static void promise11LastMark() {
        for (int mark = 0; mark < 6; mark++) {
            SeriesMarks x = new SeriesMarks();
            x.tell(0, 0);
            x.tell(1 << (3 * mark), 0);
            c.due("mark " + mark + " alone tells them apart", x.worst(0, 0), mark);
        }
    }
}
