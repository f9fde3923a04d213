import java.util.ArrayList;
import java.util.List;
import java.util.Random;

/**
 * What is dropped or folded changes no sum, no number of series that are seen, no key, no bill and no
 * plan. Two objects are told the same; to one of them marks are dropped and values folded besides.
 */
public final class StaysRightTest {
    private static final int LAST = 6;
    private static final int MOST_CALLS = 512;
    private static final Checks c = new Checks();

    public static void main(String[] args) {
        byHand();
        for (int seed = 0; seed < 20; seed++) {
            for (int from = 0; from <= LAST; from++) {
                for (int to = from; to <= LAST; to++) {
                    alike(seed, from, to);
                }
            }
        }
        c.end();
    }

    /** Four series in marks 0 and 1, where every mark is dropped and all values are folded. */
    private static void byHand() {
        SeriesMarks x = new SeriesMarks();
        x.tell(011, 10);
        x.tell(012, 20);
        x.tell(021, 40);
        x.tell(022, 80);
        x.ask(2, SeriesMarks.NONE, 0);
        x.ask(3, 0, 2);
        for (int mark = 0; mark < 6; mark++) {
            x.drop(mark, true);
            x.fold(mark, 1, 2);
            x.fold(mark, 0, 2);
        }
        c.due("short names, as a proof that all is dropped", x.kept(0, 0), 1);
        c.due("seen", x.seen(0, 0), 4);
        c.due("values", x.values(0, 0, 0), 2);
        c.due("unlike, none put to 0", x.unlike(0, 0, 0), 4);
        c.due("unlike, mark 0 put to 0", x.unlike(1, 0, 0), 2);
        c.due("worst", x.worst(0, 0), 0);
        c.due("growth", x.growth(3, 0, 0), 80);
        c.due("find", x.find(022), 3);
        c.due("name", x.series(3, 0), 022);
        c.due("answer by mark 1", x.answer(0, 010, 0, 0), 30);
        c.due("answer by mark 1, its other value", x.answer(0, 020, 0, 0), 120);
        c.due("answer of a chief that no series has", x.answer(0, 0, 0, 0), 0);
        c.due("answer of one value wanted", x.answer(1, 022, 0, 0), 80);
        c.due("keys", x.keys(0, 0, 0), 2);
        c.due("keys of one value wanted", x.keys(1, 0, 0), 2);
        c.due("the greatest key", x.key(1, 1, 0, 0), 022);
        c.due("bill", x.bill(1, 2, 0, 0), 2);
        c.due("bill of a chief that no series has", x.bill(1, 0, 0, 0), 0);
        c.due("plan for all", x.plan(4, 0, 0), 0);
        c.due("plan for one fewer", x.plan(3, 0, 0), 1);
        c.due("plan for one", x.plan(1, 0, 0), 3);
    }

    private static SeriesMarks made(int seed, boolean cut) {
        Random told = new Random(seed);
        Random cuts = new Random(seed + 1000);
        SeriesMarks x = new SeriesMarks();
        x.ask(told.nextInt(64), SeriesMarks.NONE, 0);
        x.ask(1 | told.nextInt(64), 0, told.nextInt(3));
        for (int tick = 0; tick <= LAST; tick++) {
            if (cut) {
                cutSome(x, cuts);
            }
            for (int i = 0; i < 4; i++) {
                x.tell(told.nextInt(3) + 8 * told.nextInt(3) + 0100000 * told.nextInt(2), told.nextInt(100));
            }
            x.weigh(told.nextBoolean(), told.nextInt(3), told.nextInt(4));
            if (tick < LAST) {
                x.pass(1);
            }
        }
        return x;
    }

    private static void cutSome(SeriesMarks x, Random cuts) {
        int[] marks = {0, 1, 5};
        x.drop(marks[cuts.nextInt(3)], cuts.nextInt(4) != 0);
        x.fold(marks[cuts.nextInt(3)], cuts.nextInt(4), cuts.nextInt(4));
    }

    private static void alike(int seed, int from, int to) {
        List<Long> whole = answers(made(seed, false), from, to);
        List<Long> cut = answers(made(seed, true), from, to);
        c.holds("few enough calls", whole.size() <= MOST_CALLS - 80);
        for (int i = 0; i < whole.size(); i++) {
            c.due("seed " + seed + ", span " + from + " .. " + to + ", asked " + i, cut.get(i), whole.get(i));
        }
    }

    private static List<Long> answers(SeriesMarks x, int from, int to) {
        List<Long> all = new ArrayList<>();
        all.add((long) x.seen(from, to));
        all.add((long) x.worst(from, to));
        for (int what = 0; what < 4; what++) {
            all.add((long) x.count(what));
        }
        for (int marks = 0; marks <= 63; marks++) {
            all.add((long) x.unlike(marks, from, to));
            all.add((long) x.loss(marks));
        }
        for (int most = 0; most <= 19; most++) {
            all.add((long) x.plan(most, from, to));
        }
        for (int i = 0; i < 18; i++) {
            all.add(x.growth(i, from, to));
            all.add((long) x.series(i, 5));
        }
        addOfMarks(x, all, from, to);
        for (int asking = 0; asking < 2; asking++) {
            addOfAsking(x, all, asking, from, to);
        }
        return all;
    }

    private static void addOfMarks(SeriesMarks x, List<Long> all, int from, int to) {
        for (int mark = 0; mark < 6; mark++) {
            all.add((long) x.values(mark, from, to));
            for (int value = 0; value < 8; value++) {
                all.add((long) x.bill(mark, value, from, to));
            }
        }
    }

    private static void addOfAsking(SeriesMarks x, List<Long> all, int asking, int from, int to) {
        int keys = x.keys(asking, from, to);
        all.add((long) keys);
        for (int i = 0; i < keys; i++) {
            int key = x.key(asking, i, from, to);
            all.add((long) key);
            all.add(x.answer(asking, key, from, to));
        }
    }
}
