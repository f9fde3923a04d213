import java.util.ArrayList;
import java.util.List;
import java.util.Random;

/** Calls told by numbers in the order of the face, and arguments for them that are mostly as told. */
final class Calls {
    static final int KINDS = 26;

    private static final String[] NAMES = {
        "pass", "tell", "series", "find", "growth", "seen", "values", "unlike", "kept", "worst", "drop", "fold",
        "dropped", "chief", "shortAt", "ask", "answer", "keys", "key", "works", "lacks", "weigh", "loss", "plan",
        "bill", "count"};

    /** What each argument is: see one(). */
    private static final String[] ARGUMENTS = {
        "p", "nc", "iw", "n", "ift", "ft", "mft", "bft", "ft", "ft", "md", "mvv", "mT", "mvT", "nT", "bMv", "aKft",
        "aft", "ajft", "aft", "aft", "dxg", "b", "lft", "mvft", "w"};

    private static final int[] WILD = {
        Integer.MIN_VALUE, -1000000000, -64, -10, -9, -8, -2, -1, 6, 7, 8, 10, 63, 64, 120, 121, 199, 200, 1000, 1001,
        262143, 262144, 1000000000, 1000000001, Integer.MAX_VALUE};

    private final Random random;
    private final int spread;
    private final int wildness;
    private final List<int[]> asked = new ArrayList<>();
    private int tick = 0;

    /** spread: how many unlike values names take; wildness: of 1000 arguments so many are wild. */
    Calls(long seed, int spread, int wildness) {
        this.random = new Random(seed);
        this.spread = spread;
        this.wildness = wildness;
    }

    /** What was answered, so that spans and keys to come can be such as are there. */
    void learn(int kind, int[] a, long answer) {
        if (kind == 0 && answer > 0) {
            tick = (int) answer;
        }
        if (kind == 15 && answer >= 0) {
            asked.add(a);
        }
    }

    static String told(int kind, int[] a) {
        StringBuilder s = new StringBuilder(NAMES[kind]).append('(');
        for (int i = 0; i < ARGUMENTS[kind].length(); i++) {
            s.append(i == 0 ? "" : ", ").append(a[i]);
        }
        return s.append(')').toString();
    }

    int[] arguments(int kind) {
        int[] a = new int[4];
        for (int i = 0; i < ARGUMENTS[kind].length(); i++) {
            a[i] = random.nextInt(1000) < wildness ? WILD[random.nextInt(WILD.length)] : one(ARGUMENTS[kind].charAt(i));
            boolean isEndOfSpan = ARGUMENTS[kind].charAt(i) == 't' && random.nextInt(1000) >= wildness;
            if (isEndOfSpan && a[i - 1] >= 0 && a[i - 1] <= tick) {
                a[i] = a[i - 1] + random.nextInt(tick - a[i - 1] + 1);
            }
        }
        boolean isOfAsking = kind == 16 && a[0] >= 0 && a[0] < asked.size();
        if (isOfAsking && random.nextInt(4) != 0) {
            a[1] = keyOf(asked.get(a[0]));
        }
        return a;
    }

    private int one(char kind) {
        return switch (kind) {
            case 'p' -> random.nextInt(20) == 0 ? 1 + random.nextInt(199) : 1 + random.nextInt(3);
            case 'n' -> someName();
            case 'c' -> random.nextInt(4) == 0 ? random.nextInt(1000000001) : random.nextInt(50);
            case 'i' -> random.nextInt(12);
            case 'w' -> random.nextInt(6);
            case 'f', 't', 'T' -> random.nextInt(tick + 1);
            case 'm' -> random.nextInt(6);
            case 'M' -> random.nextInt(3) == 0 ? -9 : random.nextInt(6);
            case 'v' -> random.nextInt(8);
            case 'b' -> random.nextInt(64);
            case 'd' -> random.nextInt(2);
            case 'a' -> random.nextInt(1 + Math.min(asked.size(), 9));
            case 'K' -> someName() & digitsOf(random.nextInt(64));
            case 'j' -> random.nextInt(random.nextBoolean() ? 2 : 10);
            case 'x' -> random.nextInt(8);
            case 'g' -> random.nextInt(4) * 7;
            default -> random.nextInt(30) == 0 ? random.nextInt(121) : random.nextInt(12);
        };
    }

    private int someName() {
        int name = 0;
        for (int mark = 0; mark < 6; mark++) {
            name |= random.nextInt(mark < 3 ? spread : 1 + spread / 2) << (3 * mark);
        }
        return name;
    }

    private int keyOf(int[] asking) {
        int name = someName();
        if (asking[1] != -9) {
            name = name & ~digitsOf(1 << asking[1]) | asking[2] << (3 * asking[1]);
        }
        return name & digitsOf(asking[0]);
    }

    private static int digitsOf(int marks) {
        int digits = 0;
        for (int mark = 0; mark < 6; mark++) {
            digits |= ((marks >> mark) & 1) * (7 << (3 * mark));
        }
        return digits;
    }

    static long call(SeriesMarks x, int kind, int[] a) {
        return switch (kind) {
            case 0 -> x.pass(a[0]);
            case 1 -> x.tell(a[0], a[1]);
            case 2 -> x.series(a[0], a[1]);
            case 3 -> x.find(a[0]);
            case 4 -> x.growth(a[0], a[1], a[2]);
            case 5 -> x.seen(a[0], a[1]);
            case 6 -> x.values(a[0], a[1], a[2]);
            case 7 -> x.unlike(a[0], a[1], a[2]);
            case 8 -> x.kept(a[0], a[1]);
            case 9 -> x.worst(a[0], a[1]);
            case 10 -> x.drop(a[0], (a[1] & 1) == 1);
            case 11 -> x.fold(a[0], a[1], a[2]);
            case 12 -> x.dropped(a[0], a[1]);
            case 13 -> x.chief(a[0], a[1], a[2]);
            case 14 -> x.shortAt(a[0], a[1]);
            case 15 -> x.ask(a[0], a[1], a[2]);
            case 16 -> x.answer(a[0], a[1], a[2], a[3]);
            case 17 -> x.keys(a[0], a[1], a[2]);
            case 18 -> x.key(a[0], a[1], a[2], a[3]);
            case 19 -> x.works(a[0], a[1], a[2]);
            case 20 -> x.lacks(a[0], a[1], a[2]);
            case 21 -> x.weigh((a[0] & 1) == 1, a[1], a[2]);
            case 22 -> x.loss(a[0]);
            case 23 -> x.plan(a[0], a[1], a[2]);
            case 24 -> x.bill(a[0], a[1], a[2], a[3]);
            default -> x.count(a[0]);
        };
    }
}
