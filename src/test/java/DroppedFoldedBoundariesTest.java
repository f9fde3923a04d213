/** The boundary cases of promises 12 to 16: drop, fold, dropped, chief, shortAt. */
public final class DroppedFoldedBoundariesTest {
    private static final Checks c = new Checks();

    public static void main(String[] args) {
        promise12Unknown();
        promise12EveryMarkAndTwice();
        promise12AtTheLastTick();
        promise13UnknownMark();
        promise13UnknownValues();
        promise13WithItself();
        promise13AlreadyTogether();
        promise13GroupsOfEitherSide();
        promise14Unknown();
        promise14Outside();
        promise14FirstAndLastTick();
        promise15Unknown();
        promise15Outside();
        promise15EndsOfValues();
        promise16OutsideName();
        promise16OutsideTick();
        promise16EndsOfNames();
        c.end();
    }

    private static void promise12Unknown() {
        SeriesMarks x = new SeriesMarks();
        Edges.refuses(c, "drop true", 0, 5, SeriesMarks.UNKNOWN, mark -> x.drop(mark, true));
        c.due("none is dropped by them", x.count(4), 0);
        for (int mark = 0; mark < 6; mark++) {
            x.drop(mark, true);
        }
        Edges.refuses(c, "drop false", 0, 5, SeriesMarks.UNKNOWN, mark -> x.drop(mark, false));
        c.due("none is kept by them", x.count(4), 6);
    }

    private static void promise12EveryMarkAndTwice() {
        SeriesMarks x = new SeriesMarks();
        for (int mark = 0; mark < 6; mark++) {
            c.due("kept, was kept", x.drop(mark, false), 0);
            c.due("dropped, was kept", x.drop(mark, true), 0);
            c.due("dropped, was dropped", x.drop(mark, true), 1);
            c.due("so many are dropped", x.count(4), mark + 1);
        }
        x.pass(1);
        for (int mark = 5; mark >= 0; mark--) {
            c.due("kept, was dropped since the tick before", x.drop(mark, false), 1);
            c.due("so many are dropped", x.count(4), mark);
        }
    }

    private static void promise12AtTheLastTick() {
        SeriesMarks x = new SeriesMarks();
        x.pass(199);
        c.due("at the last tick", x.drop(5, true), 0);
        c.due("there", x.dropped(5, 199), 1);
        c.due("not ahead of it", x.dropped(5, 198), 0);
        c.due("FULL", x.pass(1), SeriesMarks.FULL);
        c.due("kept at the last tick", x.drop(5, false), 1);
        c.due("there", x.dropped(5, 199), 0);
    }

    private static void promise13UnknownMark() {
        SeriesMarks x = new SeriesMarks();
        Edges.refuses(c, "fold, mark", 0, 5, SeriesMarks.UNKNOWN, mark -> x.fold(mark, 0, 7));
        allAreTheirOwn(x);
    }

    private static void promise13UnknownValues() {
        SeriesMarks x = new SeriesMarks();
        Edges.refuses(c, "fold, a", 0, 7, SeriesMarks.UNKNOWN, a -> x.fold(0, a, 7));
        Edges.refuses(c, "fold, b", 0, 7, SeriesMarks.UNKNOWN, b -> x.fold(5, 7, b));
        Edges.refuses(c, "fold, both", 0, 7, SeriesMarks.UNKNOWN, both -> x.fold(5, both, both));
        allAreTheirOwn(x);
    }

    private static void allAreTheirOwn(SeriesMarks x) {
        for (int mark = 0; mark < 6; mark++) {
            for (int value = 0; value < 8; value++) {
                c.due("its own chief", x.chief(mark, value, 0), value);
            }
        }
    }

    private static void promise13WithItself() {
        SeriesMarks x = new SeriesMarks();
        x.ask(63, SeriesMarks.NONE, 0);
        for (int mark = 0; mark < 6; mark++) {
            c.due("the least with itself", x.fold(mark, 0, 0), 0);
            c.due("the greatest with itself", x.fold(mark, 7, 7), 7);
        }
        c.due("nothing is folded by them", x.works(0, 0, 0), 2);
        x.fold(0, 7, 3);
        c.due("one that has another chief", x.fold(0, 7, 7), 3);
    }

    private static void promise13AlreadyTogether() {
        SeriesMarks x = new SeriesMarks();
        c.due("the least and the greatest", x.fold(5, 0, 7), 0);
        c.due("again", x.fold(5, 0, 7), 0);
        c.due("the other way round", x.fold(5, 7, 0), 0);
        x.pass(199);
        c.due("at the last tick", x.fold(5, 7, 0), 0);
        c.due("others are as they were", x.chief(5, 6, 199), 6);
    }

    /** Groups 1 3, 5 7 and 0 2: either side brings all that are together with it. */
    private static void promise13GroupsOfEitherSide() {
        int[][] sides = {{3, 7}, {7, 3}, {3, 5}, {5, 1}, {1, 7}};
        for (int[] s : sides) {
            SeriesMarks x = new SeriesMarks();
            x.fold(4, 3, 1);
            x.fold(4, 7, 5);
            x.fold(4, 2, 0);
            c.due("their chief", x.fold(4, s[0], s[1]), 1);
            int[] due = {0, 1, 0, 1, 4, 1, 6, 1};
            for (int value = 0; value < 8; value++) {
                c.due("chief of " + value, x.chief(4, value, 0), due[value]);
            }
            c.due("with the group of the least", x.fold(4, s[0], 2), 0);
            c.due("all come along", x.chief(4, s[1], 0), 0);
        }
    }

    private static void promise14Unknown() {
        SeriesMarks x = new SeriesMarks();
        Edges.refuses(c, "dropped, mark", 0, 5, SeriesMarks.UNKNOWN, mark -> x.dropped(mark, 0));
    }

    private static void promise14Outside() {
        int[] ticks = {0, 1, 42, 199};
        for (int tick : ticks) {
            SeriesMarks x = new SeriesMarks();
            x.pass(tick);
            Edges.refuses(c, "dropped at " + tick, 0, tick, SeriesMarks.OUTSIDE, when -> x.dropped(5, when));
        }
    }

    private static void promise14FirstAndLastTick() {
        SeriesMarks x = new SeriesMarks();
        x.drop(0, true);
        c.due("at 0, the tick that is now", x.dropped(0, 0), 1);
        x.pass(199);
        x.drop(0, false);
        c.due("at 0", x.dropped(0, 0), 1);
        c.due("at 198", x.dropped(0, 198), 1);
        c.due("at 199, the tick that is now", x.dropped(0, 199), 0);
    }

    private static void promise15Unknown() {
        SeriesMarks x = new SeriesMarks();
        Edges.refuses(c, "chief, mark", 0, 5, SeriesMarks.UNKNOWN, mark -> x.chief(mark, 7, 0));
        Edges.refuses(c, "chief, value", 0, 7, SeriesMarks.UNKNOWN, value -> x.chief(5, value, 0));
    }

    private static void promise15Outside() {
        int[] ticks = {0, 1, 42, 199};
        for (int tick : ticks) {
            SeriesMarks x = new SeriesMarks();
            x.pass(tick);
            Edges.refuses(c, "chief at " + tick, 0, tick, SeriesMarks.OUTSIDE, when -> x.chief(5, 7, when));
        }
    }

    private static void promise15EndsOfValues() {
        for (int mark = 0; mark < 6; mark++) {
            SeriesMarks x = new SeriesMarks();
            c.due("the least", x.chief(mark, 0, 0), 0);
            c.due("the greatest", x.chief(mark, 7, 0), 7);
            x.pass(198);
            x.fold(mark, 7, 0);
            x.pass(1);
            c.due("folded, the tick ahead", x.chief(mark, 7, 197), 7);
            c.due("folded, its tick", x.chief(mark, 7, 198), 0);
            c.due("folded, the last tick", x.chief(mark, 7, 199), 0);
            c.due("the least is its own chief ever", x.chief(mark, 0, 199), 0);
        }
    }

    private static void promise16OutsideName() {
        SeriesMarks x = new SeriesMarks();
        Edges.refuses(c, "shortAt, name", 0, 262143, SeriesMarks.OUTSIDE, name -> x.shortAt(name, 0));
        for (int mark = 0; mark < 6; mark++) {
            x.drop(mark, true);
        }
        Edges.refuses(c, "shortAt, all dropped", 0, 262143, SeriesMarks.OUTSIDE, name -> x.shortAt(name, 0));
    }

    private static void promise16OutsideTick() {
        int[] ticks = {0, 1, 42, 199};
        for (int tick : ticks) {
            SeriesMarks x = new SeriesMarks();
            x.pass(tick);
            Edges.refuses(c, "shortAt at " + tick, 0, tick, SeriesMarks.OUTSIDE, when -> x.shortAt(7, when));
        }
    }

    private static void promise16EndsOfNames() {
        SeriesMarks x = new SeriesMarks();
        c.due("the least", x.shortAt(0, 0), 0);
        c.due("the greatest", x.shortAt(0777777, 0), 0777777);
        int due = 0777777;
        for (int mark = 0; mark < 6; mark++) {
            x.drop(mark, true);
            due -= 7 << (3 * mark);
            c.due("marks up to " + mark + " dropped", x.shortAt(0777777, 0), due);
            c.due("the least is never shorter", x.shortAt(0, 0), 0);
        }
        x.pass(199);
        for (int mark = 0; mark < 6; mark++) {
            x.drop(mark, false);
            x.fold(mark, 7, 1);
        }
        c.due("all dropped", x.shortAt(0777777, 198), 0);
        c.due("all folded", x.shortAt(0777777, 199), 0111111);
    }
}
