import java.util.ArrayList;
import java.util.LinkedHashMap;
import java.util.List;
import java.util.Map;
import java.util.TreeMap;
import java.util.TreeSet;

/**
 * The document read a second time, as plainly as it goes: it keeps what was told as it was told and
 * works every answer out from the start, so that it shares no way of reckoning with the class.
 */
final class Model {
    private static final int UNKNOWN = -1, OUTSIDE = -2, STATE = -3, FULL = -4, NONE = -9;

    private record Dropping(int tick, int mark, boolean is) { }

    private record Folding(int tick, int mark, int a, int b) { }

    private record Asking(int marks, int mark, int value) { }

    private int now = 0;
    private final Map<Integer, TreeMap<Integer, Integer>> counts = new LinkedHashMap<>();
    private final List<Dropping> droppings = new ArrayList<>();
    private final List<Folding> foldings = new ArrayList<>();
    private final List<Asking> askings = new ArrayList<>();
    private final Map<Integer, Integer> weights = new TreeMap<>();
    private final Map<Integer, Integer> worths = new TreeMap<>();

    /** The call with this number in the order of the face; a boolean is told by its lowest bit. */
    long call(int which, int a, int b, int c, int d) {
        return switch (which) {
            case 0 -> pass(a);
            case 1 -> tell(a, b);
            case 2 -> series(a, b);
            case 3 -> badName(a) ? OUTSIDE : numberOf(a);
            case 4 -> noSeries(a) ? UNKNOWN : badSpan(b, c) ? OUTSIDE : growth(nameOf(a), b, c);
            case 5 -> badSpan(a, b) ? OUTSIDE : seen(a, b).size();
            case 6 -> bad(a, 5) ? UNKNOWN : badSpan(b, c) ? OUTSIDE : values(a, b, c);
            case 7 -> bad(a, 63) || badSpan(b, c) ? OUTSIDE : unlike(a, b, c);
            case 8 -> badSpan(a, b) ? OUTSIDE : kept(a, b);
            case 9 -> badSpan(a, b) ? OUTSIDE : worst(a, b);
            case 10 -> drop(a, (b & 1) == 1);
            case 11 -> fold(a, b, c);
            case 12 -> bad(a, 5) ? UNKNOWN : bad(b, now) ? OUTSIDE : isDropped(a, b) ? 1 : 0;
            case 13 -> bad(a, 5) || bad(b, 7) ? UNKNOWN : bad(c, now) ? OUTSIDE : chief(a, b, c);
            case 14 -> badName(a) || bad(b, now) ? OUTSIDE : shortened(a, b);
            case 15 -> ask(a, b, c);
            case 16 -> answer(a, b, c, d);
            case 17 -> noAsking(a) ? UNKNOWN : badSpan(b, c) ? OUTSIDE : keysOf(a, b, c).size();
            case 18 -> noAsking(a) ? UNKNOWN : badSpan(c, d) ? OUTSIDE : nthKey(a, b, c, d);
            case 19 -> noAsking(a) ? UNKNOWN : badSpan(b, c) ? OUTSIDE : works(a, b, c);
            case 20 -> noAsking(a) ? UNKNOWN : badSpan(b, c) ? OUTSIDE : lacks(a, b, c);
            case 21 -> weigh((a & 1) == 1, b, c);
            case 22 -> bad(a, 63) ? OUTSIDE : loss(a);
            case 23 -> bad(a, 120) || badSpan(b, c) ? OUTSIDE : plan(a, b, c);
            case 24 -> bad(a, 5) || bad(b, 7) ? UNKNOWN : badSpan(c, d) ? OUTSIDE : bill(a, b, c, d);
            default -> count(a);
        };
    }

    private static boolean bad(int number, int most) {
        return number < 0 || number > most;
    }

    private static boolean badName(int name) {
        return bad(name, 262143);
    }

    private boolean badSpan(int from, int to) {
        return bad(from, now) || bad(to, now) || from > to;
    }

    private boolean noSeries(int i) {
        return i < 0 || i >= counts.size();
    }

    private boolean noAsking(int i) {
        return i < 0 || i >= askings.size();
    }

    private static boolean isIn(int marks, int mark) {
        return marks / (1 << mark) % 2 == 1;
    }

    /** The digits of a name, mark 0 first. */
    private static int[] digits(int name) {
        int[] digits = new int[6];
        for (int mark = 0; mark < 6; mark++) {
            digits[mark] = name % 8;
            name /= 8;
        }
        return digits;
    }

    private static int name(int[] digits) {
        int name = 0;
        for (int mark = 5; mark >= 0; mark--) {
            name = name * 8 + digits[mark];
        }
        return name;
    }

    private static int without(int marks, int name) {
        int[] digits = digits(name);
        for (int mark = 0; mark < 6; mark++) {
            digits[mark] = isIn(marks, mark) ? 0 : digits[mark];
        }
        return name(digits);
    }

    private long pass(int n) {
        if (n < 1 || n > 199) {
            return OUTSIDE;
        }
        if (now + n > 199) {
            return FULL;
        }
        now += n;
        return now;
    }

    private int sampleCount() {
        int sum = 0;
        for (TreeMap<Integer, Integer> of : counts.values()) {
            sum += of.size();
        }
        return sum;
    }

    private long tell(int name, int count) {
        if (badName(name) || bad(count, 1000000000)) {
            return OUTSIDE;
        }
        if (counts.containsKey(name) && counts.get(name).containsKey(now)) {
            return STATE;
        }
        if (!counts.containsKey(name) && counts.size() == 120 || sampleCount() == 2000) {
            return FULL;
        }
        counts.computeIfAbsent(name, it -> new TreeMap<>()).put(now, count);
        return numberOf(name);
    }

    private int nameOf(int i) {
        return new ArrayList<>(counts.keySet()).get(i);
    }

    private int numberOf(int name) {
        int i = new ArrayList<>(counts.keySet()).indexOf(name);
        return i < 0 ? NONE : i;
    }

    private long series(int i, int what) {
        if (noSeries(i)) {
            return UNKNOWN;
        }
        TreeMap<Integer, Integer> of = counts.get(nameOf(i));
        return switch (what) {
            case 0 -> nameOf(i);
            case 1 -> of.size();
            case 2 -> of.lastEntry().getValue();
            case 3 -> of.firstKey();
            case 4 -> of.lastKey();
            case 5 -> of.keySet().stream()
                .filter(tick -> of.lowerEntry(tick) != null && of.get(tick) < of.lowerEntry(tick).getValue()).count();
            default -> OUTSIDE;
        };
    }

    private long growth(int name, int from, int to) {
        TreeMap<Integer, Integer> of = counts.get(name);
        long sum = 0;
        for (int tick : of.subMap(from, true, to, true).keySet()) {
            Map.Entry<Integer, Integer> before = of.lowerEntry(tick);
            int count = of.get(tick);
            sum += before == null || count < before.getValue() ? count : count - before.getValue();
        }
        return sum;
    }

    private List<Integer> seen(int from, int to) {
        List<Integer> names = new ArrayList<>();
        for (int name : counts.keySet()) {
            if (!counts.get(name).subMap(from, true, to, true).isEmpty()) {
                names.add(name);
            }
        }
        return names;
    }

    private int values(int mark, int from, int to) {
        TreeSet<Integer> values = new TreeSet<>();
        for (int name : seen(from, to)) {
            values.add(digits(name)[mark]);
        }
        return values.size();
    }

    private int unlike(int marks, int from, int to) {
        TreeSet<Integer> names = new TreeSet<>();
        for (int name : seen(from, to)) {
            names.add(without(marks, name));
        }
        return names.size();
    }

    private int kept(int from, int to) {
        TreeSet<Integer> names = new TreeSet<>();
        for (int name : counts.keySet()) {
            for (int tick : counts.get(name).subMap(from, true, to, true).keySet()) {
                names.add(shortened(name, tick));
            }
        }
        return names.size();
    }

    private int worst(int from, int to) {
        int worst = 5;
        for (int mark = 4; mark >= 0; mark--) {
            if (unlike(1 << mark, from, to) <= unlike(1 << worst, from, to)) {
                worst = mark;
            }
        }
        return worst;
    }

    private long drop(int mark, boolean is) {
        if (bad(mark, 5)) {
            return UNKNOWN;
        }
        boolean was = isDropped(mark, now);
        droppings.add(new Dropping(now, mark, is));
        return was ? 1 : 0;
    }

    private long fold(int mark, int a, int b) {
        if (bad(mark, 5) || bad(a, 7) || bad(b, 7)) {
            return UNKNOWN;
        }
        foldings.add(new Folding(now, mark, a, b));
        return chief(mark, a, now);
    }

    private boolean isDropped(int mark, int tick) {
        boolean is = false;
        for (Dropping d : droppings) {
            if (d.mark == mark && d.tick <= tick) {
                is = d.is;
            }
        }
        return is;
    }

    /** The least of all that can be reached by folds, found by going round till none is new. */
    private int chief(int mark, int value, int tick) {
        TreeSet<Integer> together = new TreeSet<>();
        together.add(value);
        for (int round = 0; round < 8; round++) {
            for (Folding f : foldings) {
                if (f.mark == mark && f.tick <= tick && (together.contains(f.a) || together.contains(f.b))) {
                    together.add(f.a);
                    together.add(f.b);
                }
            }
        }
        return together.first();
    }

    private int shortened(int name, int tick) {
        int[] digits = digits(name);
        for (int mark = 0; mark < 6; mark++) {
            digits[mark] = isDropped(mark, tick) ? 0 : chief(mark, digits[mark], tick);
        }
        return name(digits);
    }

    private long ask(int marks, int mark, int value) {
        if (bad(marks, 63)) {
            return OUTSIDE;
        }
        if (mark != NONE) {
            if (bad(mark, 5) || bad(value, 7)) {
                return UNKNOWN;
            }
            if (!isIn(marks, mark)) {
                return STATE;
            }
        }
        if (askings.size() == 10) {
            return FULL;
        }
        askings.add(new Asking(marks, mark, value));
        return askings.size() - 1;
    }

    private boolean fits(Asking asking, int name) {
        return asking.mark == NONE || digits(name)[asking.mark] == asking.value;
    }

    private long answer(int which, int key, int from, int to) {
        if (noAsking(which)) {
            return UNKNOWN;
        }
        Asking asking = askings.get(which);
        if (badName(key) || without(63 - asking.marks, key) != key || !fits(asking, key) || badSpan(from, to)) {
            return OUTSIDE;
        }
        long sum = 0;
        for (int name : counts.keySet()) {
            if (fits(asking, name) && without(63 - asking.marks, name) == key) {
                sum += growth(name, from, to);
            }
        }
        return sum;
    }

    private TreeSet<Integer> keysOf(int which, int from, int to) {
        TreeSet<Integer> keys = new TreeSet<>();
        for (int name : seen(from, to)) {
            if (fits(askings.get(which), name)) {
                keys.add(without(63 - askings.get(which).marks, name));
            }
        }
        return keys;
    }

    private int nthKey(int which, int i, int from, int to) {
        List<Integer> keys = new ArrayList<>(keysOf(which, from, to));
        return i < 0 || i >= keys.size() ? NONE : keys.get(i);
    }

    private int works(int which, int from, int to) {
        int worst = 2;
        for (int tick = from; tick <= to; tick++) {
            for (int mark = 0; mark < 6; mark++) {
                if (isIn(askings.get(which).marks, mark)) {
                    worst = Math.min(worst, worksBy(mark, tick));
                }
            }
        }
        return worst;
    }

    private int worksBy(int mark, int tick) {
        if (isDropped(mark, tick)) {
            return 0;
        }
        for (int value = 0; value < 8; value++) {
            if (chief(mark, value, tick) != value) {
                return 1;
            }
        }
        return 2;
    }

    private int lacks(int which, int from, int to) {
        for (int tick = from; tick <= to; tick++) {
            for (int mark = 0; mark < 6; mark++) {
                if (isIn(askings.get(which).marks, mark) && isDropped(mark, tick)) {
                    return tick;
                }
            }
        }
        return NONE;
    }

    private long weigh(boolean ofAsking, int which, int weight) {
        if (ofAsking ? noAsking(which) : bad(which, 5)) {
            return UNKNOWN;
        }
        if (bad(weight, 1000)) {
            return OUTSIDE;
        }
        Integer before = (ofAsking ? worths : weights).put(which, weight);
        return before == null ? 0 : before;
    }

    private int loss(int marks) {
        int sum = 0;
        for (int mark = 0; mark < 6; mark++) {
            sum += isIn(marks, mark) ? weights.getOrDefault(mark, 0) : 0;
        }
        for (int i = 0; i < askings.size(); i++) {
            boolean hurt = false;
            for (int mark = 0; mark < 6; mark++) {
                hurt |= isIn(marks, mark) && isIn(askings.get(i).marks, mark);
            }
            sum += hurt ? worths.getOrDefault(i, 0) : 0;
        }
        return sum;
    }

    private int plan(int most, int from, int to) {
        List<int[]> plans = new ArrayList<>();
        for (int marks = 0; marks < 64; marks++) {
            int left = unlike(marks, from, to);
            if (left <= most) {
                plans.add(new int[] {loss(marks), -left, marks});
            }
        }
        plans.sort(java.util.Arrays::compare);
        return plans.isEmpty() ? NONE : plans.get(0)[2];
    }

    private int bill(int mark, int value, int from, int to) {
        int sum = 0;
        for (int name : seen(from, to)) {
            sum += digits(name)[mark] == value ? 1 : 0;
        }
        return sum;
    }

    private int count(int what) {
        int droppedNow = 0;
        for (int mark = 0; mark < 6; mark++) {
            droppedNow += isDropped(mark, now) ? 1 : 0;
        }
        return switch (what) {
            case 0 -> now;
            case 1 -> counts.size();
            case 2 -> sampleCount();
            case 3 -> askings.size();
            case 4 -> droppedNow;
            default -> OUTSIDE;
        };
    }
}
