/** Promises 7 to 11: seen, values, unlike, kept, worst. */
public final class HowManyTest {
    private static final Checks c = new Checks();

    public static void main(String[] args) {
        promise7Seen();
        promise8Values();
        promise9Unlike();
        promise10Kept();
        promise11Worst();
        noSpans();
        c.end();
    }

    /** Ticks 0: 000001, 000012; 1: none; 2: 000001, 000022, 300022. */
    private static SeriesMarks some() {
        SeriesMarks x = new SeriesMarks();
        x.tell(01, 5);
        x.tell(012, 5);
        x.pass(2);
        x.tell(01, 6);
        x.tell(022, 0);
        x.tell(0300022, 0);
        return x;
    }

    private static void promise7Seen() {
        SeriesMarks x = some();
        c.due("seen(0, 0)", x.seen(0, 0), 2);
        c.due("seen(0, 1)", x.seen(0, 1), 2);
        c.due("seen(1, 1)", x.seen(1, 1), 0);
        c.due("seen(1, 2)", x.seen(1, 2), 3);
        c.due("seen(0, 2)", x.seen(0, 2), 4);
        x.drop(0, true);
        c.due("seen though dropped", x.seen(0, 2), 4);
    }

    private static void promise8Values() {
        SeriesMarks x = some();
        c.due("values(0, 0, 2)", x.values(0, 0, 2), 2);
        c.due("values(1, 0, 2)", x.values(1, 0, 2), 3);
        c.due("values(1, 2, 2)", x.values(1, 2, 2), 2);
        c.due("values(5, 0, 2)", x.values(5, 0, 2), 2);
        c.due("values(5, 0, 0)", x.values(5, 0, 0), 1);
        c.due("values(3, 0, 2)", x.values(3, 0, 2), 1);
        c.due("values(1, 1, 1)", x.values(1, 1, 1), 0);
        x.fold(1, 0, 2);
        x.drop(5, true);
        c.due("values though folded", x.values(1, 0, 2), 3);
        c.due("values though dropped", x.values(5, 0, 2), 2);
        c.due("values(6, 0, 0)", x.values(6, 0, 0), SeriesMarks.UNKNOWN);
        c.due("values(-1, 0, 0)", x.values(-1, 0, 0), SeriesMarks.UNKNOWN);
        c.due("values(6, 1, 0)", x.values(6, 1, 0), SeriesMarks.UNKNOWN);
        c.due("values(5, 1, 0)", x.values(5, 1, 0), SeriesMarks.OUTSIDE);
        allEightValues();
    }

    private static void allEightValues() {
        for (int mark = 0; mark < 6; mark++) {
            SeriesMarks x = new SeriesMarks();
            for (int value = 7; value >= 0; value--) {
                x.tell(value << (3 * mark), 0);
            }
            c.due("eight values of mark " + mark, x.values(mark, 0, 0), 8);
            c.due("one of the next", x.values((mark + 1) % 6, 0, 0), 1);
        }
    }

    private static void promise9Unlike() {
        SeriesMarks x = some();
        c.due("unlike(0, 0, 2)", x.unlike(0, 0, 2), 4);
        c.due("unlike(1, 0, 2)", x.unlike(1, 0, 2), 4);
        c.due("unlike(2, 0, 2)", x.unlike(2, 0, 2), 3);
        c.due("unlike(32, 0, 2)", x.unlike(32, 0, 2), 3);
        c.due("unlike(34, 0, 2)", x.unlike(34, 0, 2), 2);
        c.due("unlike(63, 0, 2)", x.unlike(63, 0, 2), 1);
        c.due("unlike(63, 1, 1)", x.unlike(63, 1, 1), 0);
        c.due("unlike(2, 0, 0)", x.unlike(2, 0, 0), 2);
        x.drop(1, true);
        x.fold(5, 0, 3);
        c.due("unlike though dropped and folded", x.unlike(0, 0, 2), 4);
        c.due("unlike of another mark", x.unlike(1, 0, 2), 4);
        c.due("unlike(64, 0, 0)", x.unlike(64, 0, 0), SeriesMarks.OUTSIDE);
        c.due("unlike(-1, 0, 0)", x.unlike(-1, 0, 0), SeriesMarks.OUTSIDE);
    }

    private static void promise10Kept() {
        SeriesMarks x = new SeriesMarks();
        x.tell(0111, 0);
        x.tell(0112, 0);
        c.due("all kept", x.kept(0, 0), 2);
        x.pass(1);
        x.drop(0, true);
        x.tell(0111, 0);
        x.tell(0113, 0);
        c.due("dropped ahead of the samples", x.kept(1, 1), 1);
        c.due("one series, two short names", x.kept(0, 1), 3);
        x.pass(1);
        x.tell(0111, 0);
        x.drop(0, false);
        c.due("kept again behind the sample", x.kept(2, 2), 1);
        c.due("like the name at first", x.kept(0, 2), 3);
        x.fold(0, 1, 0);
        c.due("folded at the tick", x.kept(2, 2), 1);
        c.due("like the dropped one", x.kept(1, 2), 1);
        x.pass(1);
        c.due("no samples", x.kept(3, 3), 0);
        x.tell(0112, 0);
        x.fold(0, 2, 1);
        c.due("all of it", x.kept(0, 3), 3);
    }

    private static void promise11Worst() {
        SeriesMarks x = some();
        c.due("of like ones the least", x.worst(0, 2), 1);
        c.due("none seen", x.worst(1, 1), 0);
        c.due("at 0: all leave two", x.worst(0, 0), 0);
        x.tell(0500022, 0);
        c.due("mark 5 is the worst", x.worst(0, 2), 5);
        x.drop(5, true);
        c.due("dropped or not", x.worst(0, 2), 5);
    }

    private static void noSpans() {
        SeriesMarks x = some();
        int[][] spans = {{-1, 0}, {0, 3}, {3, 3}, {2, 1}, {Integer.MIN_VALUE, Integer.MAX_VALUE}};
        for (int[] s : spans) {
            String told = "(" + s[0] + ", " + s[1] + ")";
            c.due("seen" + told, x.seen(s[0], s[1]), SeriesMarks.OUTSIDE);
            c.due("values" + told, x.values(0, s[0], s[1]), SeriesMarks.OUTSIDE);
            c.due("unlike" + told, x.unlike(0, s[0], s[1]), SeriesMarks.OUTSIDE);
            c.due("kept" + told, x.kept(s[0], s[1]), SeriesMarks.OUTSIDE);
            c.due("worst" + told, x.worst(s[0], s[1]), SeriesMarks.OUTSIDE);
        }
    }
}
