/** The boundary cases of promises 17 to 22: ask, answer, keys, key, works, lacks. */
public final class AskingsBoundariesTest {
    private static final Checks c = new Checks();
    private static final int NONE = SeriesMarks.NONE;

    public static void main(String[] args) {
        promise17Outside();
        promise17Unknown();
        promise17ValueNotLookedAt();
        promise17State();
        promise17Full();
        promise18Unknown();
        promise18NoSpan();
        promise18NoKeyOfIt();
        promise18AnotherValueThanWanted();
        promise18OfNoSeries();
        promise18EndsOfASpan();
        promise19Unknown();
        promise19NoSpan();
        promise19Empty();
        promise19AsManyAsSeries();
        promise20Unknown();
        promise20NoSpan();
        promise20None();
        promise20FirstAndLast();
        promise20TheLeastFirst();
        promise21Unknown();
        promise21NoSpan();
        promise21EndsOfASpan();
        promise21PartsByNone();
        promise22Unknown();
        promise22NoSpan();
        promise22None();
        promise22TheLeastTick();
        c.end();
    }

    private static void promise17Outside() {
        SeriesMarks x = new SeriesMarks();
        Edges.refuses(c, "ask, marks", 0, 63, SeriesMarks.OUTSIDE, marks -> x.ask(marks, NONE, 0));
        c.due("no asking by them", x.count(3), 0);
        c.due("the least", x.ask(0, NONE, 0), 0);
        c.due("the greatest", x.ask(63, NONE, 0), 1);
    }

    private static void promise17Unknown() {
        SeriesMarks x = new SeriesMarks();
        Edges.refuses(c, "ask, mark", 0, 5, SeriesMarks.UNKNOWN, mark -> mark == NONE ? SeriesMarks.UNKNOWN : x.ask(63, mark, 0));
        Edges.refuses(c, "ask, value", 0, 7, SeriesMarks.UNKNOWN, value -> x.ask(63, 5, value));
        c.due("no asking by them", x.count(3), 0);
        c.due("the least mark and value", x.ask(1, 0, 0), 0);
        c.due("the greatest mark and value", x.ask(32, 5, 7), 1);
    }

    private static void promise17ValueNotLookedAt() {
        int[] values = {Integer.MIN_VALUE, NONE, -1, 8, Integer.MAX_VALUE};
        SeriesMarks x = new SeriesMarks();
        x.tell(0, 5);
        x.tell(1, 6);
        for (int i = 0; i < values.length; i++) {
            c.due("value " + values[i], x.ask(1, NONE, values[i]), i);
            c.due("it wants no value: keys", x.keys(i, 0, 0), 2);
            c.due("it wants no value: answer", x.answer(i, 1, 0, 0), 6);
        }
    }

    private static void promise17State() {
        SeriesMarks x = new SeriesMarks();
        for (int mark = 0; mark < 6; mark++) {
            c.due("parts by all but the mark", x.ask(63 - (1 << mark), mark, 0), SeriesMarks.STATE);
            c.due("parts by none", x.ask(0, mark, 7), SeriesMarks.STATE);
        }
        c.due("no asking by them", x.count(3), 0);
        for (int mark = 0; mark < 6; mark++) {
            c.due("parts by the mark alone", x.ask(1 << mark, mark, 7), mark);
        }
    }

    private static void promise17Full() {
        SeriesMarks x = new SeriesMarks();
        for (int i = 0; i < 10; i++) {
            c.due("asking " + i + ", all alike", x.ask(63, NONE, 0), i);
        }
        c.due("the 11th", x.ask(63, NONE, 0), SeriesMarks.FULL);
        c.due("the 11th, of one value", x.ask(63, 0, 0), SeriesMarks.FULL);
        c.due("askings", x.count(3), 10);
        c.due("the 10th is there", x.works(9, 0, 0), 2);
        c.due("the 11th is not", x.works(10, 0, 0), SeriesMarks.UNKNOWN);
    }

    private interface OfAsking {
        long ask(SeriesMarks x, int asking);
    }

    private interface OfSpanOf {
        long ask(SeriesMarks x, int from, int to);
    }

    private static void refusesNoAsking(String call, OfAsking of) {
        int[] manies = {0, 1, 10};
        for (int many : manies) {
            SeriesMarks x = new SeriesMarks();
            x.tell(0, 0);
            for (int i = 0; i < many; i++) {
                x.ask(0, NONE, 0);
            }
            String told = call + " with " + many + " askings";
            Edges.refuses(c, told, 0, many - 1, SeriesMarks.UNKNOWN, i -> of.ask(x, i));
            for (int i = 0; i < many; i++) {
                c.holds(told + " is not UNKNOWN of " + i, of.ask(x, i) != SeriesMarks.UNKNOWN);
            }
        }
    }

    private static void refusesNoSpan(String call, OfSpanOf of) {
        int[] ticks = {0, 1, 42, 199};
        for (int tick : ticks) {
            SeriesMarks x = new SeriesMarks();
            x.ask(0, NONE, 0);
            x.pass(tick);
            Edges.refusesNoSpan(c, call + " at " + tick, tick, (from, to) -> of.ask(x, from, to));
        }
    }

    private static void promise18Unknown() {
        refusesNoAsking("answer", (x, i) -> x.answer(i, 0, 0, 0));
    }

    private static void promise18NoSpan() {
        refusesNoSpan("answer", (x, from, to) -> x.answer(0, 0, from, to));
    }

    private static void promise19Unknown() {
        refusesNoAsking("keys", (x, i) -> x.keys(i, 0, 0));
    }

    private static void promise19NoSpan() {
        refusesNoSpan("keys", (x, from, to) -> x.keys(0, from, to));
    }

    private static void promise20Unknown() {
        refusesNoAsking("key", (x, i) -> x.key(i, 0, 0, 0));
    }

    private static void promise20NoSpan() {
        refusesNoSpan("key", (x, from, to) -> x.key(0, 0, from, to));
    }

    private static void promise21Unknown() {
        refusesNoAsking("works", (x, i) -> x.works(i, 0, 0));
    }

    private static void promise21NoSpan() {
        refusesNoSpan("works", (x, from, to) -> x.works(0, from, to));
    }

    private static void promise22Unknown() {
        refusesNoAsking("lacks", (x, i) -> x.lacks(i, 0, 0));
    }

    private static void promise22NoSpan() {
        refusesNoSpan("lacks", (x, from, to) -> x.lacks(0, from, to));
    }

    private static void promise18NoKeyOfIt() {
        SeriesMarks x = new SeriesMarks();
        x.ask(63, NONE, 0);
        x.ask(0, NONE, 0);
        x.ask(33, NONE, 0);
        Edges.refuses(c, "by all", 0, 0777777, SeriesMarks.OUTSIDE, key -> x.answer(0, key, 0, 0));
        Edges.refuses(c, "by none", 0, 0, SeriesMarks.OUTSIDE, key -> x.answer(1, key, 0, 0));
        c.due("by all: the greatest", x.answer(0, 0777777, 0, 0), 0);
        c.due("by all: the least", x.answer(0, 0, 0, 0), 0);
        c.due("by none: the only one", x.answer(1, 0, 0, 0), 0);
        c.due("by marks 0 and 5: the greatest", x.answer(2, 0700007, 0, 0), 0);
        for (int mark = 1; mark < 5; mark++) {
            c.due("a digit of another mark", x.answer(2, 0700007 + (1 << (3 * mark)), 0, 0), SeriesMarks.OUTSIDE);
        }
        c.due("a digit behind the last mark", x.answer(2, 01000000, 0, 0), SeriesMarks.OUTSIDE);
    }

    private static void promise18AnotherValueThanWanted() {
        SeriesMarks x = new SeriesMarks();
        x.ask(33, 0, 3);
        x.tell(0700003, 11);
        x.tell(0700004, 12);
        for (int value = 0; value < 8; value++) {
            c.due("value " + value, x.answer(0, 0700000 + value, 0, 0), value == 3 ? 11 : SeriesMarks.OUTSIDE);
        }
        c.due("the value wanted, another of the other mark", x.answer(0, 3, 0, 0), 0);
        Edges.refuses(c, "no name", 0, 0777777, SeriesMarks.OUTSIDE, key -> x.answer(0, key, 0, 0));
    }

    private static void promise18OfNoSeries() {
        SeriesMarks x = new SeriesMarks();
        x.ask(1, NONE, 0);
        c.due("no series at all", x.answer(0, 0, 0, 0), 0);
        x.tell(1, 5);
        c.due("none with the value", x.answer(0, 0, 0, 0), 0);
        x.pass(1);
        c.due("none seen", x.answer(0, 1, 1, 1), 0);
    }

    private static void promise18EndsOfASpan() {
        SeriesMarks x = new SeriesMarks();
        x.ask(0, NONE, 0);
        x.tell(0, 1);
        x.tell(1, 10);
        x.pass(1);
        x.tell(0, 101);
        x.tell(1, 9);
        x.pass(1);
        x.tell(0, 1101);
        c.due("0 .. 0", x.answer(0, 0, 0, 0), 11);
        c.due("1 .. 1", x.answer(0, 0, 1, 1), 109);
        c.due("2 .. 2", x.answer(0, 0, 2, 2), 1000);
        c.due("0 .. 1", x.answer(0, 0, 0, 1), 120);
        c.due("1 .. 2", x.answer(0, 0, 1, 2), 1109);
        c.due("0 .. 2", x.answer(0, 0, 0, 2), 1120);
    }

    private static void promise19Empty() {
        SeriesMarks x = new SeriesMarks();
        x.ask(63, NONE, 0);
        x.ask(0, NONE, 0);
        x.ask(1, 0, 7);
        for (int i = 0; i < 3; i++) {
            c.due("no series at all", x.keys(i, 0, 0), 0);
        }
        x.tell(6, 0);
        c.due("none with the value wanted", x.keys(2, 0, 0), 0);
        x.tell(7, 0);
        c.due("one with the value wanted", x.keys(2, 0, 0), 1);
        c.due("by none: one for all", x.keys(1, 0, 0), 1);
        x.pass(1);
        for (int i = 0; i < 3; i++) {
            c.due("none seen", x.keys(i, 1, 1), 0);
        }
    }

    private static void promise19AsManyAsSeries() {
        SeriesMarks x = new SeriesMarks();
        x.ask(63, NONE, 0);
        x.ask(62, NONE, 0);
        for (int i = 0; i < 120; i++) {
            x.tell(0777777 - i, 0);
        }
        c.due("by all: 120", x.keys(0, 0, 0), 120);
        c.due("by all but mark 0: 15", x.keys(1, 0, 0), 15);
        c.due("the 120th", x.key(0, 119, 0, 0), 0777777);
        c.due("the first", x.key(0, 0, 0, 0), 0777777 - 119);
        c.due("the 121st", x.key(0, 120, 0, 0), NONE);
    }

    private static void promise20None() {
        SeriesMarks x = new SeriesMarks();
        x.ask(1, NONE, 0);
        c.due("no series at all", x.key(0, 0, 0, 0), NONE);
        x.tell(0, 0);
        x.tell(5, 0);
        Edges.refuses(c, "key, i", 0, 1, NONE, i -> x.key(0, i, 0, 0));
        x.pass(1);
        c.due("none seen", x.key(0, 0, 1, 1), NONE);
        x.tell(6, 0);
        c.due("behind the only one of the span", x.key(0, 1, 1, 1), NONE);
    }

    private static void promise20FirstAndLast() {
        SeriesMarks x = new SeriesMarks();
        x.ask(32, NONE, 0);
        x.ask(33, 0, 7);
        for (int value = 7; value >= 0; value--) {
            x.tell((value << 15) + value, 0);
        }
        for (int i = 0; i < 8; i++) {
            c.due("the " + i + "-th", x.key(0, i, 0, 0), i << 15);
        }
        c.due("behind the last", x.key(0, 8, 0, 0), NONE);
        c.due("the only one of the value wanted", x.key(1, 0, 0, 0), 0700007);
        c.due("behind it", x.key(1, 1, 0, 0), NONE);
    }

    private static void promise20TheLeastFirst() {
        SeriesMarks x = new SeriesMarks();
        x.ask(63, NONE, 0);
        int[] names = {0777777, 0, 8, 7, 0100000, 077777};
        int[] due = {0, 7, 8, 077777, 0100000, 0777777};
        for (int name : names) {
            x.tell(name, 0);
        }
        for (int i = 0; i < due.length; i++) {
            c.due("the " + i + "-th", x.key(0, i, 0, 0), due[i]);
        }
    }

    private static SeriesMarks droppedAt5() {
        SeriesMarks x = new SeriesMarks();
        x.ask(32, 5, 0);
        x.ask(31, NONE, 0);
        x.ask(0, NONE, 0);
        x.pass(5);
        x.drop(5, true);
        x.pass(1);
        x.drop(5, false);
        x.pass(4);
        x.fold(5, 6, 7);
        return x;
    }

    private static void promise21EndsOfASpan() {
        SeriesMarks x = droppedAt5();
        int[][] due = {{0, 4, 2}, {0, 5, 0}, {5, 5, 0}, {5, 9, 0}, {6, 9, 2}, {6, 10, 1}, {10, 10, 1}, {4, 6, 0}, {0, 10, 0}};
        for (int[] d : due) {
            c.due("works(0, " + d[0] + ", " + d[1] + ")", x.works(0, d[0], d[1]), d[2]);
        }
        c.due("parts by other marks", x.works(1, 0, 10), 2);
        x.drop(5, true);
        c.due("dropped and folded at one tick", x.works(0, 10, 10), 0);
    }

    private static void promise21PartsByNone() {
        SeriesMarks x = droppedAt5();
        for (int mark = 0; mark < 6; mark++) {
            x.drop(mark, true);
            x.fold(mark, 0, 7);
        }
        c.due("parts by none: it works whatever is dropped", x.works(2, 0, 10), 2);
        c.due("parts by none: it lacks nothing", x.lacks(2, 0, 10), NONE);
    }

    private static void promise22None() {
        SeriesMarks x = droppedAt5();
        c.due("ahead of it", x.lacks(0, 0, 4), NONE);
        c.due("behind it, though folded", x.lacks(0, 6, 10), NONE);
        c.due("parts by other marks", x.lacks(1, 0, 10), NONE);
        x.drop(5, true);
        x.drop(5, false);
        c.due("dropped and kept at one tick", x.lacks(0, 6, 10), NONE);
    }

    private static void promise22TheLeastTick() {
        SeriesMarks x = droppedAt5();
        c.due("ends at it", x.lacks(0, 0, 5), 5);
        c.due("is it", x.lacks(0, 5, 5), 5);
        c.due("begins at it", x.lacks(0, 5, 10), 5);
        x.drop(5, true);
        x.drop(0, true);
        x.pass(189);
        c.due("the first of two", x.lacks(0, 0, 199), 5);
        c.due("the second of two", x.lacks(0, 6, 199), 10);
        c.due("the first tick of the span", x.lacks(0, 100, 199), 100);
        c.due("the last tick", x.lacks(0, 199, 199), 199);
        c.due("mark 0", x.lacks(1, 0, 199), 10);
        SeriesMarks y = new SeriesMarks();
        y.ask(1, NONE, 0);
        y.drop(0, true);
        c.due("tick 0", y.lacks(0, 0, 0), 0);
    }
}
