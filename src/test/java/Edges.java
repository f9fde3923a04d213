import java.util.function.IntToLongFunction;

/** Numbers just beside what the document tells, far from it, and such as would wrap around into it. */
final class Edges {
    private static final int[] FAR = {
        Integer.MIN_VALUE, Integer.MIN_VALUE + 1, Integer.MIN_VALUE + 5, -1000000000, -262144, -64, -32, -10, -9, -8,
        -4, -3, -2, -1, 6, 8, 9, 10, 32, 33, 64, 120, 121, 128, 199, 200, 256, 1001, 262144, 1 << 24, 1000000001,
        Integer.MAX_VALUE - 199, Integer.MAX_VALUE - 1, Integer.MAX_VALUE};

    interface OfSpan {
        long ask(int from, int to);
    }

    private Edges() {
    }

    /** Every number that is not among least .. most is answered by this refusal; the caller tries the ends. */
    static void refuses(Checks c, String call, int least, int most, long refusal, IntToLongFunction of) {
        tryOne(c, call, least - 1, refusal, of);
        tryOne(c, call, most + 1, refusal, of);
        for (int n : FAR) {
            if (n < least || n > most) {
                tryOne(c, call, n, refusal, of);
            }
        }
    }

    private static void tryOne(Checks c, String call, int n, long refusal, IntToLongFunction of) {
        c.due(call + " of " + n, of.applyAsLong(n), refusal);
    }

    /** What is no span at this tick is OUTSIDE; the shortest spans at both ends and the longest are not. */
    static void refusesNoSpan(Checks c, String call, int tick, OfSpan of) {
        for (int[] s : noSpans(tick)) {
            c.due(call + " over " + s[0] + " .. " + s[1], of.ask(s[0], s[1]), SeriesMarks.OUTSIDE);
        }
        int[][] spans = {{0, 0}, {tick, tick}, {0, tick}};
        for (int[] s : spans) {
            c.holds(call + " over " + s[0] + " .. " + s[1] + " is not OUTSIDE", of.ask(s[0], s[1]) != SeriesMarks.OUTSIDE);
        }
    }

    static int[][] noSpans(int tick) {
        int min = Integer.MIN_VALUE;
        int max = Integer.MAX_VALUE;
        return new int[][] {
            {-1, 0}, {-1, -1}, {-1, tick}, {0, -1}, {0, tick + 1}, {tick, tick + 1}, {tick + 1, tick + 1},
            {tick + 1, tick}, {tick, tick - 1}, {1, 0}, {0, 200}, {200, 200}, {min, max}, {max, min}, {0, min},
            {min, 0}, {0, max}, {max, max}, {min, min}};
    }
}
