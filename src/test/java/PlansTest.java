/** Promises 23 to 27: weigh, loss, plan, bill, count. */
public final class PlansTest {
    private static final Checks c = new Checks();

    public static void main(String[] args) {
        promise23Weigh();
        promise24Loss();
        promise25Plan();
        promise25PlanOfLikeLoss();
        promise25PlanOfGreaterNumberLeavesMore();
        promise25PlanOfMoreMarks();
        promise25PlanOfNone();
        promise25PlanOfAllMarks();
        promise26Bill();
        promise27Count();
        c.end();
    }

    private static void promise23Weigh() {
        SeriesMarks x = new SeriesMarks();
        c.due("weigh(false, 5, 1000)", x.weigh(false, 5, 1000), 0);
        c.due("weigh(false, 5, 0)", x.weigh(false, 5, 0), 1000);
        c.due("weigh(false, 5, 7)", x.weigh(false, 5, 7), 0);
        c.due("weigh(false, 5, 1001)", x.weigh(false, 5, 1001), SeriesMarks.OUTSIDE);
        c.due("weigh(false, 5, -1)", x.weigh(false, 5, -1), SeriesMarks.OUTSIDE);
        c.due("weigh(false, 5, 8)", x.weigh(false, 5, 8), 7);
        c.due("weigh(false, 6, -1)", x.weigh(false, 6, -1), SeriesMarks.UNKNOWN);
        c.due("weigh(false, -1, 0)", x.weigh(false, -1, 0), SeriesMarks.UNKNOWN);
        c.due("weigh(true, 0, -1)", x.weigh(true, 0, -1), SeriesMarks.UNKNOWN);
        for (int i = 0; i < 10; i++) {
            x.ask(63, -9, 0);
        }
        c.due("weigh(true, 9, 3)", x.weigh(true, 9, 3), 0);
        c.due("weigh(true, 9, 1001)", x.weigh(true, 9, 1001), SeriesMarks.OUTSIDE);
        c.due("weigh(true, 9, 4)", x.weigh(true, 9, 4), 3);
        c.due("weigh(true, 10, 4)", x.weigh(true, 10, 4), SeriesMarks.UNKNOWN);
        c.due("weigh(true, -1, 4)", x.weigh(true, -1, 4), SeriesMarks.UNKNOWN);
        c.due("weigh(true, 5, 1)", x.weigh(true, 5, 1), 0);
    }

    private static void promise24Loss() {
        SeriesMarks x = new SeriesMarks();
        x.ask(3, -9, 0);
        x.ask(34, -9, 0);
        x.ask(0, -9, 0);
        x.weigh(true, 0, 100);
        x.weigh(true, 1, 200);
        x.weigh(true, 2, 1000);
        x.weigh(false, 0, 1);
        x.weigh(false, 1, 2);
        x.weigh(false, 5, 4);
        int[][] due = {{0, 0}, {1, 101}, {2, 302}, {3, 303}, {32, 204}, {33, 305}, {4, 0}, {63, 307}};
        for (int[] d : due) {
            c.due("loss(" + d[0] + ")", x.loss(d[0]), d[1]);
        }
        x.drop(0, true);
        x.fold(1, 0, 1);
        c.due("whatever is dropped", x.loss(63), 307);
        c.due("loss(64)", x.loss(64), SeriesMarks.OUTSIDE);
        c.due("loss(-1)", x.loss(-1), SeriesMarks.OUTSIDE);
    }

    private static void promise25Plan() {
        SeriesMarks x = new SeriesMarks();
        for (int a = 0; a < 4; a++) {
            for (int b = 0; b < 3; b++) {
                x.tell(a + 8 * b, 0);
            }
        }
        x.weigh(false, 0, 10);
        x.weigh(false, 1, 4);
        c.due("none need go", x.plan(12, 0, 0), 0);
        c.due("mark 1 is light", x.plan(11, 0, 0), 2);
        c.due("mark 1 is enough", x.plan(4, 0, 0), 2);
        c.due("mark 0 is needed", x.plan(3, 0, 0), 1);
        c.due("both are", x.plan(2, 0, 0), 3);
        c.due("one left", x.plan(1, 0, 0), 3);
        c.due("none left", x.plan(0, 0, 0), SeriesMarks.NONE);
        x.ask(2, -9, 0);
        x.weigh(true, 0, 7);
        c.due("an asking makes mark 1 dear", x.plan(11, 0, 0), 1);
        x.drop(0, true);
        x.fold(0, 0, 1);
        c.due("whatever is dropped", x.plan(12, 0, 0), 0);
        x.pass(1);
        x.tell(0, 1);
        c.due("of those seen alone", x.plan(1, 1, 1), 0);
        c.due("plan(-1, 0, 0)", x.plan(-1, 0, 0), SeriesMarks.OUTSIDE);
        c.due("plan(121, 0, 0)", x.plan(121, 0, 0), SeriesMarks.OUTSIDE);
        c.due("plan(120, 0, 0)", x.plan(120, 0, 0), 0);
        c.due("plan(1, 0, 2)", x.plan(1, 0, 2), SeriesMarks.OUTSIDE);
        c.due("plan(1, 1, 0)", x.plan(1, 1, 0), SeriesMarks.OUTSIDE);
        c.due("plan(1, -1, 0)", x.plan(1, -1, 0), SeriesMarks.OUTSIDE);
    }

    private static void promise25PlanOfLikeLoss() {
        SeriesMarks x = new SeriesMarks();
        x.tell(000, 0);
        x.tell(001, 0);
        x.tell(010, 0);
        x.tell(011, 0);
        x.tell(020, 0);
        c.due("that leaves the most", x.plan(4, 0, 0), 1);
        c.due("of as many the least number", x.plan(2, 0, 0), 2);
        x.weigh(false, 0, 1);
        c.due("less loss, fewer left", x.plan(4, 0, 0), 2);
        x.weigh(false, 1, 1);
        c.due("of like loss, the most left", x.plan(4, 0, 0), 1);
    }

    /** Mark 0 alone leaves 2, mark 1 alone leaves 3: the plan found first is not the one that is due. */
    private static void promise25PlanOfGreaterNumberLeavesMore() {
        SeriesMarks x = new SeriesMarks();
        x.tell(000, 0);
        x.tell(001, 0);
        x.tell(002, 0);
        x.tell(010, 0);
        c.due("the greater number leaves more", x.plan(3, 0, 0), 2);
        c.due("but too many", x.plan(2, 0, 0), 1);
        x.weigh(false, 0, 3);
        x.weigh(false, 1, 3);
        c.due("of like loss that is not 0", x.plan(3, 0, 0), 2);
        x.weigh(false, 1, 4);
        c.due("loss goes ahead of what is left", x.plan(3, 0, 0), 1);
    }

    /** Marks 0 and 1 together leave as many as mark 2 alone, and neither of them alone leaves few enough. */
    private static void promise25PlanOfMoreMarks() {
        SeriesMarks x = new SeriesMarks();
        x.tell(0000, 0);
        x.tell(0011, 0);
        x.tell(0100, 0);
        x.tell(0111, 0);
        c.due("the least number, though of more marks", x.plan(2, 0, 0), 3);
        x.weigh(false, 0, 1);
        x.weigh(false, 1, 1);
        x.weigh(false, 2, 2);
        c.due("of like loss again", x.plan(2, 0, 0), 3);
        x.weigh(false, 2, 1);
        c.due("one less of loss", x.plan(2, 0, 0), 4);
    }

    private static void promise25PlanOfNone() {
        SeriesMarks x = new SeriesMarks();
        c.due("none seen, none to be left", x.plan(0, 0, 0), 0);
        c.due("none seen", x.plan(120, 0, 0), 0);
    }

    private static void promise25PlanOfAllMarks() {
        SeriesMarks x = new SeriesMarks();
        x.tell(0000000, 0);
        x.tell(0777777, 0);
        c.due("names unlike in every mark", x.plan(1, 0, 0), 63);
    }

    private static void promise26Bill() {
        SeriesMarks x = new SeriesMarks();
        x.tell(0700001, 0);
        x.tell(0700002, 0);
        x.tell(0100002, 0);
        x.pass(1);
        x.tell(0700001, 1);
        x.tell(0700071, 1);
        c.due("bill(5, 7, 0, 1)", x.bill(5, 7, 0, 1), 3);
        c.due("bill(5, 7, 0, 0)", x.bill(5, 7, 0, 0), 2);
        c.due("bill(5, 1, 0, 1)", x.bill(5, 1, 0, 1), 1);
        c.due("bill(5, 1, 1, 1)", x.bill(5, 1, 1, 1), 0);
        c.due("bill(1, 7, 0, 1)", x.bill(1, 7, 0, 1), 1);
        c.due("bill(0, 1, 0, 1)", x.bill(0, 1, 0, 1), 2);
        c.due("bill(3, 0, 0, 1)", x.bill(3, 0, 0, 1), 4);
        x.drop(5, true);
        x.fold(5, 1, 7);
        c.due("whatever is dropped", x.bill(5, 7, 0, 1), 3);
        c.due("bill(6, 0, 0, 9)", x.bill(6, 0, 0, 9), SeriesMarks.UNKNOWN);
        c.due("bill(-1, 0, 0, 0)", x.bill(-1, 0, 0, 0), SeriesMarks.UNKNOWN);
        c.due("bill(0, 8, 0, 9)", x.bill(0, 8, 0, 9), SeriesMarks.UNKNOWN);
        c.due("bill(0, -1, 0, 0)", x.bill(0, -1, 0, 0), SeriesMarks.UNKNOWN);
        c.due("bill(0, 0, 0, 2)", x.bill(0, 0, 0, 2), SeriesMarks.OUTSIDE);
        c.due("bill(0, 0, -1, 0)", x.bill(0, 0, -1, 0), SeriesMarks.OUTSIDE);
        c.due("bill(0, 0, 1, 0)", x.bill(0, 0, 1, 0), SeriesMarks.OUTSIDE);
    }

    private static void promise27Count() {
        SeriesMarks x = new SeriesMarks();
        x.tell(1, 1);
        x.tell(2, 1);
        x.pass(5);
        x.tell(1, 1);
        x.ask(0, -9, 0);
        x.drop(0, true);
        x.drop(5, true);
        x.pass(2);
        x.drop(5, false);
        int[] due = {7, 2, 3, 1, 1};
        for (int what = 0; what < due.length; what++) {
            c.due("count(" + what + ")", x.count(what), due[what]);
        }
        c.due("count(5)", x.count(5), SeriesMarks.OUTSIDE);
        c.due("count(-1)", x.count(-1), SeriesMarks.OUTSIDE);
    }
}
