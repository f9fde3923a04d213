import java.util.Arrays;

/** The order of refusals, and that what is refused, or only asked, leaves all as it was. */
public final class RefusalsTest {
    private static final Checks c = new Checks();
    private static final int UNKNOWN = SeriesMarks.UNKNOWN;
    private static final int OUTSIDE = SeriesMarks.OUTSIDE;
    private static final int STATE = SeriesMarks.STATE;
    private static final int FULL = SeriesMarks.FULL;
    private static final int NONE = SeriesMarks.NONE;

    private interface Call {
        long on(SeriesMarks x);
    }

    public static void main(String[] args) {
        orderOfPass();
        orderOfTell();
        orderOfCallsOfSeries();
        orderOfCallsOfMarks();
        orderOfAsk();
        orderOfCallsOfAskings();
        orderOfWeigh();
        refusedChangesNothing();
        askingChangesNothing();
        refusedIsNotKeptForLater();
        c.end();
    }

    private static void orderOfPass() {
        SeriesMarks x = new SeriesMarks();
        x.pass(199);
        c.due("OUTSIDE ahead of FULL, too large", x.pass(200), OUTSIDE);
        c.due("OUTSIDE ahead of FULL, as large as can be", x.pass(Integer.MAX_VALUE), OUTSIDE);
        c.due("OUTSIDE at the last tick, too small", x.pass(0), OUTSIDE);
        c.due("FULL", x.pass(1), FULL);
    }

    private static void orderOfTell() {
        SeriesMarks x = full();
        c.due("OUTSIDE by the count ahead of STATE", x.tell(0, 1000000001), OUTSIDE);
        c.due("OUTSIDE by the count ahead of FULL", x.tell(0777777, -1), OUTSIDE);
        c.due("OUTSIDE by the name ahead of FULL", x.tell(01000000, 0), OUTSIDE);
        c.due("OUTSIDE by both", x.tell(-1, -1), OUTSIDE);
        c.due("STATE, though there are 120 series", x.tell(0, 0), STATE);
        c.due("FULL", x.tell(0777777, 0), FULL);
    }

    private static void orderOfCallsOfSeries() {
        SeriesMarks x = new SeriesMarks();
        c.due("series: UNKNOWN ahead of OUTSIDE", x.series(0, 6), UNKNOWN);
        c.due("growth: UNKNOWN ahead of OUTSIDE", x.growth(0, 1, 0), UNKNOWN);
        x.tell(0, 0);
        c.due("series: OUTSIDE", x.series(0, 6), OUTSIDE);
        c.due("series: UNKNOWN ahead of OUTSIDE", x.series(1, -1), UNKNOWN);
        c.due("growth: OUTSIDE", x.growth(0, 1, 0), OUTSIDE);
        c.due("growth: UNKNOWN ahead of OUTSIDE", x.growth(-1, -1, 0), UNKNOWN);
    }

    private static void orderOfCallsOfMarks() {
        SeriesMarks x = new SeriesMarks();
        c.due("values: UNKNOWN ahead of OUTSIDE", x.values(6, 0, 1), UNKNOWN);
        c.due("dropped: UNKNOWN ahead of OUTSIDE", x.dropped(-1, 1), UNKNOWN);
        c.due("chief: UNKNOWN by the mark ahead of OUTSIDE", x.chief(6, 0, 1), UNKNOWN);
        c.due("chief: UNKNOWN by the value ahead of OUTSIDE", x.chief(0, 8, -1), UNKNOWN);
        c.due("bill: UNKNOWN by the mark ahead of OUTSIDE", x.bill(-1, 0, 0, 1), UNKNOWN);
        c.due("bill: UNKNOWN by the value ahead of OUTSIDE", x.bill(0, -1, 1, 0), UNKNOWN);
        c.due("unlike: OUTSIDE by both", x.unlike(64, 0, 1), OUTSIDE);
        c.due("shortAt: OUTSIDE by both", x.shortAt(-1, 1), OUTSIDE);
        c.due("plan: OUTSIDE by both", x.plan(121, 0, 1), OUTSIDE);
    }

    private static void orderOfAsk() {
        SeriesMarks x = new SeriesMarks();
        for (int i = 0; i < 10; i++) {
            x.ask(0, NONE, 0);
        }
        c.due("OUTSIDE ahead of UNKNOWN by the mark", x.ask(64, 6, 0), OUTSIDE);
        c.due("OUTSIDE ahead of UNKNOWN by the value", x.ask(-1, 0, 8), OUTSIDE);
        c.due("OUTSIDE ahead of STATE", x.ask(64, 0, 0), OUTSIDE);
        c.due("OUTSIDE ahead of FULL", x.ask(64, NONE, 0), OUTSIDE);
        c.due("UNKNOWN by the value ahead of STATE", x.ask(1, 1, 8), UNKNOWN);
        c.due("UNKNOWN by the mark ahead of STATE", x.ask(1, 6, 0), UNKNOWN);
        c.due("UNKNOWN ahead of FULL", x.ask(1, 0, -1), UNKNOWN);
        c.due("STATE ahead of FULL", x.ask(1, 1, 0), STATE);
        c.due("FULL", x.ask(1, 0, 0), FULL);
        c.due("FULL, the value is not looked at", x.ask(1, NONE, 8), FULL);
    }

    private static void orderOfCallsOfAskings() {
        SeriesMarks x = new SeriesMarks();
        c.due("answer: UNKNOWN ahead of OUTSIDE by the key", x.answer(0, -1, 0, 0), UNKNOWN);
        c.due("answer: UNKNOWN ahead of OUTSIDE by the span", x.answer(0, 0, 1, 0), UNKNOWN);
        c.due("keys: UNKNOWN ahead of OUTSIDE", x.keys(0, 0, 1), UNKNOWN);
        c.due("key: UNKNOWN ahead of OUTSIDE", x.key(0, 0, 0, 1), UNKNOWN);
        c.due("works: UNKNOWN ahead of OUTSIDE", x.works(0, 0, 1), UNKNOWN);
        c.due("lacks: UNKNOWN ahead of OUTSIDE", x.lacks(0, 0, 1), UNKNOWN);
        x.ask(0, NONE, 0);
        c.due("answer: OUTSIDE by both", x.answer(0, 1, 0, 1), OUTSIDE);
        c.due("key: OUTSIDE, though there is no such key", x.key(0, 0, 0, 1), OUTSIDE);
    }

    private static void orderOfWeigh() {
        SeriesMarks x = new SeriesMarks();
        c.due("UNKNOWN mark ahead of OUTSIDE", x.weigh(false, 6, 1001), UNKNOWN);
        c.due("UNKNOWN asking ahead of OUTSIDE", x.weigh(true, 0, -1), UNKNOWN);
        c.due("OUTSIDE", x.weigh(false, 0, 1001), OUTSIDE);
    }

    /** Nothing more can be told: the last tick, 120 series, each with a sample there or at 0, 10 askings. */
    private static SeriesMarks full() {
        SeriesMarks x = new SeriesMarks();
        for (int i = 0; i < 115; i++) {
            x.tell(i * 2, i);
        }
        for (int i = 0; i < 10; i++) {
            x.ask(63 - i, NONE, 0);
            x.weigh(true, i, i + 1);
        }
        change(x);
        x.pass(198);
        for (int i = 115; i < 120; i++) {
            x.tell(i * 2, i);
        }
        x.tell(0, 7);
        return x;
    }

    /** Much is told, more could be: tick 2, two series with a sample there, two askings. */
    private static SeriesMarks halfFull() {
        SeriesMarks x = new SeriesMarks();
        x.tell(2, 9);
        x.ask(3, 0, 1);
        x.weigh(true, 0, 20);
        x.ask(32, NONE, 0);
        change(x);
        x.pass(1);
        x.tell(0, 1000000000);
        x.tell(2, 8);
        return x;
    }

    private static void change(SeriesMarks x) {
        x.fold(0, 6, 7);
        x.drop(1, true);
        x.weigh(false, 0, 30);
        x.weigh(false, 5, 1000);
        x.pass(1);
        x.drop(1, false);
        x.drop(5, true);
        x.fold(0, 2, 6);
        x.fold(5, 7, 3);
    }

    /** Some 300 answers that tell of all that is kept. */
    private static long[] look(SeriesMarks x) {
        long[] seen = new long[400];
        int n = 0;
        int now = x.count(0);
        for (int what = 0; what < 5; what++) {
            seen[n++] = x.count(what);
        }
        seen[n++] = x.seen(0, now + 1);
        for (int mark = 0; mark < 6; mark++) {
            seen[n++] = x.loss(1 << mark);
            for (int tick = 0; tick <= 2; tick++) {
                seen[n++] = x.dropped(mark, Math.min(tick, now));
                seen[n++] = x.works(0, 0, Math.min(tick, now));
            }
            for (int value = 0; value < 8; value++) {
                seen[n++] = x.chief(mark, value, 0);
                seen[n++] = x.chief(mark, value, now);
            }
        }
        for (int i = 0; i < 120; i += 17) {
            for (int what = 0; what <= 5; what++) {
                seen[n++] = x.series(i, what);
            }
            seen[n++] = x.growth(i, 0, now);
        }
        seen[n++] = x.find(0777777);
        seen[n++] = x.loss(63);
        for (int from = 0; from <= now; from += Math.max(1, now / 2)) {
            seen[n++] = x.kept(from, now);
            seen[n++] = x.unlike(0, from, now);
            seen[n++] = x.answer(1, 0, from, now);
        }
        return Arrays.copyOf(seen, n);
    }

    private static final Call[] REFUSED = {
        x -> x.pass(0), x -> x.pass(-1), x -> x.pass(200), x -> x.pass(199), x -> x.tell(-1, 0),
        x -> x.tell(01000000, 0), x -> x.tell(3, -1), x -> x.tell(3, 1000000001), x -> x.tell(0, 5),
        x -> x.drop(-1, true), x -> x.drop(6, true), x -> x.drop(32, true), x -> x.drop(37, false),
        x -> x.fold(-1, 0, 7), x -> x.fold(6, 0, 7), x -> x.fold(0, -1, 7), x -> x.fold(0, 8, 7), x -> x.fold(0, 7, -1),
        x -> x.fold(0, 7, 8), x -> x.fold(0, 8, 8), x -> x.ask(64, NONE, 0), x -> x.ask(-1, NONE, 0),
        x -> x.ask(63, 6, 0), x -> x.ask(63, -1, 0), x -> x.ask(63, 0, 8), x -> x.ask(63, 0, -1), x -> x.ask(1, 1, 0),
        x -> x.weigh(false, -1, 7), x -> x.weigh(false, 6, 7), x -> x.weigh(false, 0, -1), x -> x.weigh(false, 0, 1001),
        x -> x.weigh(true, -1, 7), x -> x.weigh(true, 10, 7), x -> x.weigh(true, 0, -1), x -> x.weigh(true, 0, 1001)};

    private static final Call[] REFUSED_IF_FULL = {
        x -> x.pass(1), x -> x.tell(0777777, 0), x -> x.tell(1, 1000000000), x -> x.ask(1, 0, 0), x -> x.ask(63, NONE, 0)};

    private static void refusedChangesNothing() {
        long[] full = look(full());
        long[] halfFull = look(halfFull());
        for (int i = 0; i < REFUSED.length; i++) {
            refusedLeaves(full(), REFUSED[i], full, "full, refused call " + i);
            refusedLeaves(halfFull(), REFUSED[i], halfFull, "half full, refused call " + i);
        }
        for (int i = 0; i < REFUSED_IF_FULL.length; i++) {
            refusedLeaves(full(), REFUSED_IF_FULL[i], full, "full, call refused then " + i);
        }
    }

    private static void refusedLeaves(SeriesMarks x, Call call, long[] before, String told) {
        long answer = call.on(x);
        c.holds(told + " is refused: " + answer, answer >= FULL && answer <= UNKNOWN);
        c.holds(told + " changes nothing", Arrays.equals(before, look(x)));
    }

    private static void askingChangesNothing() {
        Call[] asking = {
            x -> x.series(0, 2), x -> x.find(1), x -> x.find(0), x -> x.growth(0, 0, 1), x -> x.seen(0, 1),
            x -> x.values(0, 0, 1), x -> x.unlike(63, 0, 1), x -> x.kept(0, 1), x -> x.worst(0, 1), x -> x.dropped(1, 0),
            x -> x.chief(0, 7, 1), x -> x.shortAt(7, 1), x -> x.answer(1, 0, 0, 1), x -> x.keys(1, 0, 1),
            x -> x.key(1, 0, 0, 1), x -> x.works(0, 0, 1), x -> x.lacks(0, 0, 1), x -> x.loss(63), x -> x.plan(0, 0, 1),
            x -> x.plan(1, 0, 1), x -> x.bill(0, 0, 0, 1), x -> x.count(4)};
        long[] before = look(halfFull());
        for (int i = 0; i < asking.length; i++) {
            SeriesMarks x = halfFull();
            long once = asking[i].on(x);
            c.due("asked twice, call " + i, asking[i].on(x), once);
            c.holds("asking changes nothing, call " + i, Arrays.equals(before, look(x)));
        }
    }

    /** What was refused must not show later either, when the next call of its kind is taken. */
    private static void refusedIsNotKeptForLater() {
        SeriesMarks x = new SeriesMarks();
        x.tell(0, 10);
        x.tell(0, 50);
        x.tell(0, 5);
        x.pass(1);
        c.due("taken at the next tick", x.tell(0, 12), 0);
        c.due("grown since the count that was taken", x.growth(0, 1, 1), 2);
        c.due("samples that were taken", x.series(0, 1), 2);
        c.due("began again", x.series(0, 5), 0);
        x.pass(199);
        c.due("the tick after FULL", x.pass(198), 199);
        x.ask(1, 1, 0);
        c.due("the first asking after STATE", x.ask(1, 0, 0), 0);
        x.weigh(true, 0, 1001);
        c.due("the worth after OUTSIDE", x.weigh(true, 0, 1000), 0);
        c.due("the worth then", x.weigh(true, 0, 0), 1000);
    }
}
