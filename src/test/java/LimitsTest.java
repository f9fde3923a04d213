import java.util.Arrays;

/** Any numbers in any state: no call throws, what is refused changes nothing, the limits are kept. */
public final class LimitsTest {
    private static final Checks c = new Checks();

    private static final int[] EDGES = {
        Integer.MIN_VALUE, Integer.MIN_VALUE + 1, -262144, -10, -9, -1, 0, 1, 5, 6, 7, 8, 31, 32, 63, 64, 120, 199, 200,
        262143, 262144, 1000000000, Integer.MAX_VALUE - 1, Integer.MAX_VALUE};

    public static void main(String[] args) {
        edgesOnNew();
        edgesOnFull();
        the2000thSample();
        refusedChangesNothing();
        c.end();
    }

    private static void edgesOnNew() {
        askAllOfEdges(new SeriesMarks());
    }

    private static void edgesOnFull() {
        SeriesMarks x = new SeriesMarks();
        fill(x);
        c.due("samples of a full one", x.count(2), 2000);
        c.due("series of a full one", x.count(1), 120);
        c.due("the 2001st sample", x.tell(0111000, 0), SeriesMarks.FULL);
        c.due("the 2001st sample, outside", x.tell(0111000, -1), SeriesMarks.OUTSIDE);
        c.due("kept of a full one", x.kept(0, x.count(0)), 120 * 8);
        askAllOfEdges(x);
        c.due("samples after all", x.count(2), 2000);
        c.due("tick after all", x.count(0), 199);
    }

    /** More calls than the document grants, since the limits must hold there too. */
    private static void fill(SeriesMarks x) {
        for (int i = 0; i < 10; i++) {
            x.ask(63 - i, SeriesMarks.NONE, 0);
        }
        int told = 0;
        for (int tick = 0; told < 2000; tick++) {
            x.drop(3, tick % 2 == 1);
            x.drop(4, tick / 2 % 2 == 1);
            x.drop(5, tick / 4 % 2 == 1);
            for (int i = 0; i < 120 && told < 2000; i++) {
                x.tell(0111000 + i, i);
                told++;
            }
            x.pass(1);
        }
    }

    /** 2000 samples need more calls than the document grants: told here that the limit is not beside it. */
    private static void the2000thSample() {
        SeriesMarks x = new SeriesMarks();
        for (int i = 0; i < 1999; i++) {
            x.tell(i % 100, i);
            if (i % 100 == 99) {
                x.pass(1);
            }
        }
        c.due("1999 samples", x.count(2), 1999);
        c.due("the 2000th, of a new series", x.tell(100, 0), 100);
        c.due("2000 samples", x.count(2), 2000);
        c.due("the 2001st, of an old series", x.tell(99, 0), SeriesMarks.FULL);
        c.due("the 2001st, of a new series", x.tell(101, 0), SeriesMarks.FULL);
        c.due("no series by it", x.count(1), 101);
        c.due("STATE ahead of FULL", x.tell(100, 0), SeriesMarks.STATE);
        c.due("OUTSIDE ahead of FULL", x.tell(101, 1000000001), SeriesMarks.OUTSIDE);
        x.pass(1);
        c.due("FULL at the next tick too", x.tell(100, 0), SeriesMarks.FULL);
        c.due("its latest tick is as it was", x.series(100, 4), 19);
        c.due("samples", x.count(2), 2000);
    }

    private static void askAllOfEdges(SeriesMarks x) {
        for (int kind = 0; kind < Calls.KINDS; kind++) {
            for (int a : EDGES) {
                for (int b : EDGES) {
                    for (int d : EDGES) {
                        long got = Calls.call(x, kind, new int[] {a, b, d, d});
                        c.holds("an answer that is told: " + got, got >= -4 || got == -9);
                    }
                }
            }
        }
        while (x.pass(1) > 0) {
            c.holds("a tick", x.count(0) <= 199);
        }
    }

    private static void refusedChangesNothing() {
        Calls calls = new Calls(77, 2, 400);
        SeriesMarks x = new SeriesMarks();
        int refused = 0;
        for (int i = 0; i < 20000; i++) {
            int kind = i % Calls.KINDS;
            int[] a = calls.arguments(kind);
            long[] before = look(x);
            long got = Calls.call(x, kind, a);
            if (got >= -4 && got < 0) {
                refused++;
                c.holds("refused, and all is as before: " + Calls.told(kind, a), Arrays.equals(before, look(x)));
            }
            calls.learn(kind, a, got);
        }
        c.holds("many were refused", refused > 5000);
    }

    /** Answers that tell of all that is kept. */
    private static long[] look(SeriesMarks x) {
        long[] seen = new long[120];
        int n = 0;
        int now = x.count(0);
        for (int what = 0; what < 5; what++) {
            seen[n++] = x.count(what);
        }
        for (int mark = 0; mark < 6; mark++) {
            seen[n++] = x.dropped(mark, now);
            seen[n++] = x.loss(1 << mark);
            for (int value = 0; value < 8; value++) {
                seen[n++] = x.chief(mark, value, now);
            }
        }
        seen[n++] = x.loss(63);
        seen[n++] = x.kept(0, now);
        seen[n++] = x.unlike(0, 0, now);
        seen[n++] = x.answer(0, 0, 0, now);
        seen[n++] = x.growth(0, 0, now);
        seen[n++] = x.series(0, 2);
        seen[n++] = x.find(0);
        return Arrays.copyOf(seen, n);
    }
}
