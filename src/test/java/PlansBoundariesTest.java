/** The boundary cases of promises 23 to 27: weigh, loss, plan, bill, count. */
public final class PlansBoundariesTest {
    private static final Checks c = new Checks();
    private static final int NONE = SeriesMarks.NONE;

    public static void main(String[] args) {
        promise23UnknownMark();
        promise23UnknownAsking();
        promise23Outside();
        promise23LeastAndGreatest();
        promise23MarksAndAskingsApart();
        promise24Outside();
        promise24NoneAndAll();
        promise24AnAskingOnce();
        promise25Outside();
        promise25NoSpan();
        promise25NoneSeen();
        promise25ThereIsNone();
        promise25JustEnough();
        promise25Full();
        promise25LeastLossAheadOfMostLeft();
        promise25TheLeastNumber();
        promise26Unknown();
        promise26NoSpan();
        promise26EmptyAndFull();
        promise27Outside();
        promise27Greatest();
        c.end();
    }

    private static void promise23UnknownMark() {
        SeriesMarks x = new SeriesMarks();
        x.ask(63, NONE, 0);
        Edges.refuses(c, "weigh of a mark", 0, 5, SeriesMarks.UNKNOWN, which -> x.weigh(false, which, 1));
        c.due("no weight by them", x.loss(63), 0);
    }

    private static void promise23UnknownAsking() {
        int[] manies = {0, 1, 10};
        for (int many : manies) {
            SeriesMarks x = new SeriesMarks();
            for (int i = 0; i < many; i++) {
                x.ask(63, NONE, 0);
            }
            String of = "weigh of " + many + " askings";
            Edges.refuses(c, of, 0, many - 1, SeriesMarks.UNKNOWN, which -> x.weigh(true, which, 1));
            c.due("no worth by them", x.loss(63), 0);
        }
    }

    private static void promise23Outside() {
        SeriesMarks x = new SeriesMarks();
        x.ask(63, NONE, 0);
        x.weigh(false, 0, 3);
        x.weigh(true, 0, 4);
        Edges.refuses(c, "weight", 0, 1000, SeriesMarks.OUTSIDE, weight -> x.weigh(false, 0, weight));
        Edges.refuses(c, "worth", 0, 1000, SeriesMarks.OUTSIDE, weight -> x.weigh(true, 0, weight));
        c.due("as it was", x.loss(1), 7);
    }

    private static void promise23LeastAndGreatest() {
        SeriesMarks x = new SeriesMarks();
        for (int i = 0; i < 10; i++) {
            x.ask(63, NONE, 0);
        }
        for (int i = 0; i < 10; i++) {
            c.due("worth at first", x.weigh(true, i, 1000), 0);
            c.due("the greatest", x.weigh(true, i, 0), 1000);
            c.due("the least", x.weigh(true, i, 1), 0);
            c.due("the same again", x.weigh(true, i, 1), 1);
        }
        for (int mark = 0; mark < 6; mark++) {
            c.due("weight at first", x.weigh(false, mark, 1000), 0);
            c.due("the greatest", x.weigh(false, mark, 0), 1000);
            c.due("the least", x.weigh(false, mark, 1), 0);
            c.due("the same again", x.weigh(false, mark, 1), 1);
        }
    }

    private static void promise23MarksAndAskingsApart() {
        SeriesMarks x = new SeriesMarks();
        x.ask(63, NONE, 0);
        x.weigh(false, 0, 5);
        c.due("the asking of the same number", x.weigh(true, 0, 6), 0);
        c.due("the mark of the same number", x.weigh(false, 0, 7), 5);
        c.due("the asking again", x.weigh(true, 0, 8), 6);
    }

    private static void promise24Outside() {
        SeriesMarks x = new SeriesMarks();
        Edges.refuses(c, "loss", 0, 63, SeriesMarks.OUTSIDE, x::loss);
    }

    private static void promise24NoneAndAll() {
        SeriesMarks x = new SeriesMarks();
        for (int mark = 0; mark < 6; mark++) {
            x.weigh(false, mark, 1 << mark);
        }
        for (int marks = 0; marks <= 63; marks++) {
            c.due("loss(" + marks + ")", x.loss(marks), marks);
        }
        x.ask(0, NONE, 0);
        x.weigh(true, 0, 1000);
        c.due("an asking that parts by none is never lost", x.loss(63), 63);
    }

    private static void promise24AnAskingOnce() {
        SeriesMarks x = new SeriesMarks();
        x.ask(33, 0, 0);
        x.ask(33, NONE, 0);
        x.weigh(true, 0, 100);
        x.weigh(true, 1, 1000);
        c.due("by one mark of it", x.loss(1), 1100);
        c.due("by the other", x.loss(32), 1100);
        c.due("by both, once", x.loss(33), 1100);
        c.due("by none of it", x.loss(30), 0);
    }

    private static SeriesMarks twoByTwo() {
        SeriesMarks x = new SeriesMarks();
        x.tell(000, 0);
        x.tell(001, 0);
        x.tell(010, 0);
        x.tell(011, 0);
        return x;
    }

    private static void promise25Outside() {
        SeriesMarks x = twoByTwo();
        Edges.refuses(c, "plan, most", 0, 120, SeriesMarks.OUTSIDE, most -> x.plan(most, 0, 0));
        c.due("the greatest", x.plan(120, 0, 0), 0);
    }

    private static void promise25NoSpan() {
        int[] ticks = {0, 1, 42, 199};
        for (int tick : ticks) {
            SeriesMarks x = twoByTwo();
            x.pass(tick);
            Edges.refusesNoSpan(c, "plan at " + tick, tick, (from, to) -> x.plan(0, from, to));
        }
    }

    private static void promise25NoneSeen() {
        SeriesMarks x = twoByTwo();
        x.pass(1);
        c.due("none seen, none is to be left", x.plan(0, 1, 1), 0);
        c.due("none seen, all may be left", x.plan(120, 1, 1), 0);
        c.due("some seen, none is to be left", x.plan(0, 0, 1), NONE);
    }

    private static void promise25ThereIsNone() {
        SeriesMarks x = new SeriesMarks();
        x.tell(0, 0);
        c.due("one is left always", x.plan(0, 0, 0), NONE);
        c.due("one may be left", x.plan(1, 0, 0), 0);
    }

    private static void promise25JustEnough() {
        SeriesMarks x = twoByTwo();
        x.weigh(false, 0, 1000);
        x.weigh(false, 1, 999);
        c.due("just as many as there are", x.plan(4, 0, 0), 0);
        c.due("one fewer", x.plan(3, 0, 0), 2);
        c.due("just as many as are left", x.plan(2, 0, 0), 2);
        c.due("one fewer again", x.plan(1, 0, 0), 3);
        c.due("none", x.plan(0, 0, 0), NONE);
    }

    private static void promise25Full() {
        SeriesMarks x = new SeriesMarks();
        for (int i = 0; i < 120; i++) {
            x.tell(i * 2184, 0);
        }
        for (int mark = 0; mark < 6; mark++) {
            x.weigh(false, mark, 1000);
        }
        c.due("all 120 may be left", x.plan(120, 0, 0), 0);
        int plan = x.plan(119, 0, 0);
        c.holds("one fewer: some mark goes", plan > 0 && plan <= 63 && x.unlike(plan, 0, 0) <= 119);
        c.due("one is to be left", x.unlike(x.plan(1, 0, 0), 0, 0), 1);
        c.due("none is to be left", x.plan(0, 0, 0), NONE);
    }

    /** Mark 0 leaves 3 of 5 names, mark 1 leaves 2, mark 2 all 5. */
    private static void promise25LeastLossAheadOfMostLeft() {
        SeriesMarks x = twoByTwo();
        x.tell(020, 0);
        c.due("of like loss the one that leaves the most", x.plan(4, 0, 0), 1);
        x.weigh(false, 0, 1);
        c.due("one less of loss", x.plan(4, 0, 0), 2);
        x.weigh(false, 1, 1);
        c.due("like loss again", x.plan(4, 0, 0), 1);
        x.weigh(false, 1, 0);
        x.ask(2, NONE, 0);
        x.weigh(true, 0, 1);
        c.due("like loss by an asking", x.plan(4, 0, 0), 1);
        x.weigh(true, 0, 0);
        c.due("less loss by an asking", x.plan(4, 0, 0), 2);
    }

    private static void promise25TheLeastNumber() {
        SeriesMarks x = twoByTwo();
        c.due("none of weight, none need go", x.plan(4, 0, 0), 0);
        c.due("marks 0 and 1 are alike", x.plan(3, 0, 0), 1);
        x.weigh(false, 0, 1);
        c.due("mark 1 is lighter; those that save nothing stay out", x.plan(3, 0, 0), 2);
        SeriesMarks y = new SeriesMarks();
        y.tell(0, 0);
        y.tell(0100000, 0);
        c.due("mark 5 alone saves", y.plan(1, 0, 0), 32);
        y.tell(0777777, 0);
        c.due("every mark is needed", y.plan(1, 0, 0), 63);
    }

    private static void promise26Unknown() {
        SeriesMarks x = twoByTwo();
        Edges.refuses(c, "bill, mark", 0, 5, SeriesMarks.UNKNOWN, mark -> x.bill(mark, 0, 0, 0));
        Edges.refuses(c, "bill, value", 0, 7, SeriesMarks.UNKNOWN, value -> x.bill(0, value, 0, 0));
    }

    private static void promise26NoSpan() {
        int[] ticks = {0, 1, 42, 199};
        for (int tick : ticks) {
            SeriesMarks x = twoByTwo();
            x.pass(tick);
            Edges.refusesNoSpan(c, "bill at " + tick, tick, (from, to) -> x.bill(5, 7, from, to));
        }
    }

    private static void promise26EmptyAndFull() {
        SeriesMarks x = new SeriesMarks();
        for (int i = 0; i < 120; i++) {
            x.tell(0700000 + i, 0);
        }
        c.due("all have it", x.bill(5, 7, 0, 0), 120);
        c.due("none has it", x.bill(5, 0, 0, 0), 0);
        c.due("an eighth has it", x.bill(0, 7, 0, 0), 15);
        x.pass(1);
        c.due("none seen", x.bill(5, 7, 1, 1), 0);
        x.tell(0700000, 0);
        c.due("one seen", x.bill(5, 7, 1, 1), 1);
        c.due("seen twice, once on the bill", x.bill(5, 7, 0, 1), 120);
    }

    private static void promise27Outside() {
        SeriesMarks x = twoByTwo();
        Edges.refuses(c, "count", 0, 4, SeriesMarks.OUTSIDE, x::count);
    }

    private static void promise27Greatest() {
        SeriesMarks x = new SeriesMarks();
        for (int i = 0; i < 120; i++) {
            x.tell(i, 0);
        }
        x.pass(199);
        for (int i = 0; i < 120; i++) {
            x.tell(i, 0);
        }
        for (int i = 0; i < 10; i++) {
            x.ask(i, NONE, 0);
        }
        for (int mark = 0; mark < 6; mark++) {
            x.drop(mark, true);
        }
        int[] due = {199, 120, 240, 10, 6};
        for (int what = 0; what < due.length; what++) {
            c.due("count(" + what + ")", x.count(what), due[what]);
        }
    }
}
