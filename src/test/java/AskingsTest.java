/** Promises 17 to 22: ask, answer, keys, key, works, lacks. */
public final class AskingsTest {
    private static final Checks c = new Checks();

    public static void main(String[] args) {
        promise17Ask();
        promise17Limit();
        promise18Answer();
        promise18AnswerAcrossDropped();
        promises19And20Keys();
        promise21Works();
        promise22Lacks();
        noSpans();
        c.end();
    }

    private static void promise17Ask() {
        SeriesMarks x = new SeriesMarks();
        c.due("ask(64, 9, 9)", x.ask(64, 9, 9), SeriesMarks.OUTSIDE);
        c.due("ask(-1, -9, 0)", x.ask(-1, -9, 0), SeriesMarks.OUTSIDE);
        c.due("ask(1, 6, 0)", x.ask(1, 6, 0), SeriesMarks.UNKNOWN);
        c.due("ask(1, -1, 0)", x.ask(1, -1, 0), SeriesMarks.UNKNOWN);
        c.due("ask(1, -8, 0)", x.ask(1, -8, 0), SeriesMarks.UNKNOWN);
        c.due("ask(1, 1, 8)", x.ask(1, 1, 8), SeriesMarks.UNKNOWN);
        c.due("ask(1, 0, -1)", x.ask(1, 0, -1), SeriesMarks.UNKNOWN);
        c.due("ask(62, 0, 0)", x.ask(62, 0, 0), SeriesMarks.STATE);
        c.due("ask(0, 5, 7)", x.ask(0, 5, 7), SeriesMarks.STATE);
        c.due("refused: askings", x.count(3), 0);
        c.due("ask(0, -9, -100)", x.ask(0, -9, -100), 0);
        c.due("ask(32, 5, 7)", x.ask(32, 5, 7), 1);
        c.due("ask(32, 5, 7) again", x.ask(32, 5, 7), 2);
        c.due("askings", x.count(3), 3);
    }

    private static void promise17Limit() {
        SeriesMarks x = new SeriesMarks();
        for (int i = 0; i < 10; i++) {
            c.due("asking " + i, x.ask(63, i % 6, i % 8), i);
        }
        c.due("the 11th", x.ask(63, -9, 0), SeriesMarks.FULL);
        c.due("the 11th, outside", x.ask(64, -9, 0), SeriesMarks.OUTSIDE);
        c.due("the 11th, unknown", x.ask(63, 6, 0), SeriesMarks.UNKNOWN);
        c.due("the 11th, not parted by", x.ask(1, 1, 0), SeriesMarks.STATE);
        c.due("askings", x.count(3), 10);
    }

    /** Askings 0: by marks 0 and 2; 1: by these, mark 2 with value 3 alone; 2: by none. */
    private static SeriesMarks some() {
        SeriesMarks x = new SeriesMarks();
        x.ask(5, -9, 0);
        x.ask(5, 2, 3);
        x.ask(0, -9, 0);
        x.tell(0301, 10);
        x.tell(0371, 4);
        x.tell(0401, 1);
        x.pass(1);
        x.tell(0301, 15);
        x.tell(0371, 3);
        x.tell(0300, 100);
        return x;
    }

    private static void promise18Answer() {
        SeriesMarks x = some();
        c.due("answer(0, 0301, 0, 1)", x.answer(0, 0301, 0, 1), 22);
        c.due("answer(0, 0301, 1, 1)", x.answer(0, 0301, 1, 1), 8);
        c.due("answer(0, 0401, 0, 1)", x.answer(0, 0401, 0, 1), 1);
        c.due("answer(0, 0401, 1, 1)", x.answer(0, 0401, 1, 1), 0);
        c.due("answer(0, 0, 0, 1)", x.answer(0, 0, 0, 1), 0);
        c.due("answer(1, 0301, 0, 1)", x.answer(1, 0301, 0, 1), 22);
        c.due("answer(1, 0300, 0, 1)", x.answer(1, 0300, 0, 1), 100);
        c.due("answer(1, 0401, 0, 1)", x.answer(1, 0401, 0, 1), SeriesMarks.OUTSIDE);
        c.due("answer(0, 0371, 0, 1)", x.answer(0, 0371, 0, 1), SeriesMarks.OUTSIDE);
        c.due("answer(2, 0, 0, 1)", x.answer(2, 0, 0, 1), 123);
        c.due("answer(2, 1, 0, 1)", x.answer(2, 1, 0, 1), SeriesMarks.OUTSIDE);
        c.due("answer(0, 01000000, 0, 1)", x.answer(0, 01000000, 0, 1), SeriesMarks.OUTSIDE);
        c.due("answer(0, -9, 0, 1)", x.answer(0, -9, 0, 1), SeriesMarks.OUTSIDE);
        c.due("answer(1, -9, 0, 1)", x.answer(1, -9, 0, 1), SeriesMarks.OUTSIDE);
        c.due("answer(3, -1, 2, 1)", x.answer(3, -1, 2, 1), SeriesMarks.UNKNOWN);
        c.due("answer(-1, 0, 0, 1)", x.answer(-1, 0, 0, 1), SeriesMarks.UNKNOWN);
    }

    private static void promise18AnswerAcrossDropped() {
        SeriesMarks x = new SeriesMarks();
        x.ask(1, -9, 0);
        x.ask(0, -9, 0);
        long sum = 0;
        for (int round = 0; round < 3; round++) {
            for (int name = 0; name < 8; name++) {
                x.tell(name, 1000000000 - round);
                sum += 1000000000 - round;
            }
            x.drop(0, round == 0);
            x.fold(0, 1, 2);
            x.pass(1);
        }
        c.due("sums beyond ints, whatever is dropped", x.answer(1, 0, 0, 3), sum);
        c.due("a key of a folded value", x.answer(0, 2, 0, 3), 2999999997L);
    }

    private static void promises19And20Keys() {
        SeriesMarks x = some();
        c.due("keys(0, 0, 1)", x.keys(0, 0, 1), 3);
        c.due("keys(0, 0, 0)", x.keys(0, 0, 0), 2);
        c.due("keys(1, 0, 1)", x.keys(1, 0, 1), 2);
        c.due("keys(1, 0, 0)", x.keys(1, 0, 0), 1);
        c.due("keys(2, 0, 1)", x.keys(2, 0, 1), 1);
        int[] due = {0300, 0301, 0401, SeriesMarks.NONE, SeriesMarks.NONE};
        for (int i = 0; i < due.length; i++) {
            c.due("key(0, " + i + ", 0, 1)", x.key(0, i, 0, 1), due[i]);
        }
        c.due("key(0, 0, 0, 0)", x.key(0, 0, 0, 0), 0301);
        c.due("key(1, 1, 0, 1)", x.key(1, 1, 0, 1), 0301);
        c.due("key(1, 2, 0, 1)", x.key(1, 2, 0, 1), SeriesMarks.NONE);
        c.due("key(2, 0, 0, 1)", x.key(2, 0, 0, 1), 0);
        c.due("key(0, -1, 0, 1)", x.key(0, -1, 0, 1), SeriesMarks.NONE);
        c.due("key(0, max, 0, 1)", x.key(0, Integer.MAX_VALUE, 0, 1), SeriesMarks.NONE);
        c.due("key(0, -1, 0, 2)", x.key(0, -1, 0, 2), SeriesMarks.OUTSIDE);
        c.due("keys(3, 0, 2)", x.keys(3, 0, 2), SeriesMarks.UNKNOWN);
        c.due("keys(-1, 0, 0)", x.keys(-1, 0, 0), SeriesMarks.UNKNOWN);
        c.due("key(3, 0, 0, 2)", x.key(3, 0, 0, 2), SeriesMarks.UNKNOWN);
        x.drop(2, true);
        x.fold(0, 0, 1);
        c.due("keys, whatever is dropped", x.keys(0, 0, 1), 3);
        x.pass(1);
        c.due("keys of none seen", x.keys(2, 2, 2), 0);
        c.due("key of none seen", x.key(2, 0, 2, 2), SeriesMarks.NONE);
    }

    private static void promise21Works() {
        SeriesMarks x = new SeriesMarks();
        x.ask(3, 0, 1);
        x.ask(4, -9, 0);
        x.ask(0, -9, 0);
        x.pass(1);
        x.fold(1, 6, 7);
        x.fold(2, 4, 4);
        x.pass(1);
        x.drop(0, true);
        x.pass(1);
        x.drop(0, false);
        x.pass(1);
        c.due("whole", x.works(0, 0, 0), 2);
        c.due("folded", x.works(0, 0, 1), 1);
        c.due("dropped at its end", x.works(0, 0, 2), 0);
        c.due("dropped at its start", x.works(0, 2, 4), 0);
        c.due("dropped in its midst", x.works(0, 1, 3), 0);
        c.due("kept again", x.works(0, 3, 4), 1);
        c.due("a fold of one value is none", x.works(1, 0, 4), 2);
        c.due("parts by none", x.works(2, 0, 4), 2);
        x.drop(0, true);
        x.drop(0, false);
        c.due("dropped and kept in one tick", x.works(0, 4, 4), 1);
        c.due("works(3, 0, 9)", x.works(3, 0, 9), SeriesMarks.UNKNOWN);
        c.due("works(-1, 0, 0)", x.works(-1, 0, 0), SeriesMarks.UNKNOWN);
    }

    private static void promise22Lacks() {
        SeriesMarks x = new SeriesMarks();
        x.ask(3, -9, 0);
        x.ask(4, -9, 0);
        x.ask(0, -9, 0);
        x.pass(2);
        x.drop(1, true);
        x.pass(2);
        x.drop(0, true);
        x.drop(1, false);
        x.pass(1);
        x.drop(0, false);
        x.fold(0, 0, 1);
        c.due("lacks(0, 0, 1)", x.lacks(0, 0, 1), SeriesMarks.NONE);
        c.due("lacks(0, 0, 5)", x.lacks(0, 0, 5), 2);
        c.due("lacks(0, 3, 5)", x.lacks(0, 3, 5), 3);
        c.due("lacks(0, 4, 4)", x.lacks(0, 4, 4), 4);
        c.due("lacks(0, 5, 5)", x.lacks(0, 5, 5), SeriesMarks.NONE);
        c.due("lacks(1, 0, 5)", x.lacks(1, 0, 5), SeriesMarks.NONE);
        c.due("lacks(2, 0, 5)", x.lacks(2, 0, 5), SeriesMarks.NONE);
        c.due("lacks(3, 0, 9)", x.lacks(3, 0, 9), SeriesMarks.UNKNOWN);
        c.due("lacks(-1, 0, 0)", x.lacks(-1, 0, 0), SeriesMarks.UNKNOWN);
    }

    private static void noSpans() {
        SeriesMarks x = some();
        int[][] spans = {{-1, 0}, {0, 2}, {2, 2}, {1, 0}, {Integer.MIN_VALUE, Integer.MAX_VALUE}};
        for (int[] s : spans) {
            String told = "(" + s[0] + ", " + s[1] + ")";
            c.due("answer" + told, x.answer(0, 0301, s[0], s[1]), SeriesMarks.OUTSIDE);
            c.due("keys" + told, x.keys(0, s[0], s[1]), SeriesMarks.OUTSIDE);
            c.due("key" + told, x.key(0, 0, s[0], s[1]), SeriesMarks.OUTSIDE);
            c.due("works" + told, x.works(0, s[0], s[1]), SeriesMarks.OUTSIDE);
            c.due("lacks" + told, x.lacks(0, s[0], s[1]), SeriesMarks.OUTSIDE);
        }
    }
}
