import java.util.ArrayList;

/**
 * A keeper of counters told by marks. The names in capitals in the document are the names used here:
 * a name is six octal digits, one for each mark; a plan, or what an asking parts by, is six bits.
 */
public final class SeriesMarks {
    public static final int UNKNOWN = -1, OUTSIDE = -2, STATE = -3, FULL = -4, NONE = -9;

    private static final int MARKS = 6;
    private static final int ALL_MARKS = 63;
    private static final int VALUES = 8;
    private static final int VALUE_BITS = 3;
    private static final int LAST_NAME = 262143;
    private static final int LAST_TICK = 199;
    private static final int MOST_COUNT = 1000000000;
    private static final int MOST_SERIES = 120;
    private static final int MOST_SAMPLES = 2000;
    private static final int MOST_ASKINGS = 10;
    private static final int MOST_WEIGHT = 1000;

    private int tick;
    private final ArrayList<Series> allSeries = new ArrayList<>();
    private final ArrayList<Sample> samples = new ArrayList<>();
    private final ArrayList<Asking> askings = new ArrayList<>();
    private final Shortening shortening = new Shortening();
    private final int[] weights = new int[MARKS];
    // Two rows for all calls: the one is filled from the other, and neither is made anew.
    private final NameSet seenNames = new NameSet();
    private final NameSet workNames = new NameSet();

    public SeriesMarks() {
    }

    // ---- samples

    public int pass(int n) {
        if (n < 1 || n > LAST_TICK) {
            return OUTSIDE;
        }
        if (tick + n > LAST_TICK) {
            return FULL;
        }
        shortening.carryOn(tick, tick + n);
        tick += n;
        return tick;
    }

    public int tell(int name, int count) {
        if (!isName(name) || count < 0 || count > MOST_COUNT) {
            return OUTSIDE;
        }
        int i = numberOf(name);
        if (i != NONE && allSeries.get(i).latestTick == tick) {
            return STATE;
        }
        boolean noRoomForSeries = i == NONE && allSeries.size() >= MOST_SERIES;
        if (noRoomForSeries || samples.size() >= MOST_SAMPLES) {
            return FULL;
        }
        if (i == NONE) {
            i = allSeries.size();
            allSeries.add(new Series(name, tick));
        }
        int rise = allSeries.get(i).takeSample(count, tick);
        samples.add(new Sample(name, tick, rise));
        return i;
    }

    public int series(int i, int what) {
        if (!isSeries(i)) {
            return UNKNOWN;
        }
        Series it = allSeries.get(i);
        switch (what) {
            case 0:
                return it.name;
            case 1:
                return it.sampleCount;
            case 2:
                return it.latestCount;
            case 3:
                return it.firstTick;
            case 4:
                return it.latestTick;
            case 5:
                return it.restarts;
            default:
                return OUTSIDE;
        }
    }

    public int find(int name) {
        if (!isName(name)) {
            return OUTSIDE;
        }
        return numberOf(name);
    }

    public long growth(int i, int from, int to) {
        if (!isSeries(i)) {
            return UNKNOWN;
        }
        if (!isSpan(from, to)) {
            return OUTSIDE;
        }
        return growthOfAlike(digitsOf(ALL_MARKS), allSeries.get(i).name, from, to);
    }

    // ---- how many

    public int seen(int from, int to) {
        if (!isSpan(from, to)) {
            return OUTSIDE;
        }
        gatherSeen(from, to);
        return seenNames.size;
    }

    public int values(int mark, int from, int to) {
        if (!isMark(mark)) {
            return UNKNOWN;
        }
        if (!isSpan(from, to)) {
            return OUTSIDE;
        }
        gatherSeen(from, to);
        return namesLeftWithout(ALL_MARKS ^ (1 << mark));
    }

    public int unlike(int marks, int from, int to) {
        if (!isSetOfMarks(marks) || !isSpan(from, to)) {
            return OUTSIDE;
        }
        gatherSeen(from, to);
        return namesLeftWithout(marks);
    }

    public int kept(int from, int to) {
        if (!isSpan(from, to)) {
            return OUTSIDE;
        }
        workNames.makeEmpty();
        for (int s = 0; s < samples.size(); s++) {
            Sample sample = samples.get(s);
            if (sample.isWithin(from, to)) {
                workNames.put(shortening.shorten(sample.name, sample.tick));
            }
        }
        return workNames.size;
    }

    public int worst(int from, int to) {
        if (!isSpan(from, to)) {
            return OUTSIDE;
        }
        gatherSeen(from, to);
        int worstMark = 0;
        int fewest = namesLeftWithout(1);
        for (int mark = 1; mark < MARKS; mark++) {
            int left = namesLeftWithout(1 << mark);
            if (left < fewest) {
                fewest = left;
                worstMark = mark;
            }
        }
        return worstMark;
    }

    // ---- dropped, folded

    public int drop(int mark, boolean is) {
        if (!isMark(mark)) {
            return UNKNOWN;
        }
        int before = asNumber(shortening.isDropped(mark, tick));
        shortening.setDropped(mark, is, tick);
        return before;
    }

    public int fold(int mark, int a, int b) {
        if (!isMark(mark) || !isValue(a) || !isValue(b)) {
            return UNKNOWN;
        }
        return shortening.putTogether(mark, a, b, tick);
    }

    public int dropped(int mark, int tick) {
        if (!isMark(mark)) {
            return UNKNOWN;
        }
        if (!isPastTick(tick)) {
            return OUTSIDE;
        }
        return asNumber(shortening.isDropped(mark, tick));
    }

    public int chief(int mark, int value, int tick) {
        if (!isMark(mark) || !isValue(value)) {
            return UNKNOWN;
        }
        if (!isPastTick(tick)) {
            return OUTSIDE;
        }
        return shortening.chiefOf(mark, value, tick);
    }

    public int shortAt(int name, int tick) {
        if (!isName(name) || !isPastTick(tick)) {
            return OUTSIDE;
        }
        return shortening.shorten(name, tick);
    }

    // ---- askings

    public int ask(int marks, int mark, int value) {
        if (!isSetOfMarks(marks)) {
            return OUTSIDE;
        }
        boolean wantsOneValue = mark != NONE;
        if (wantsOneValue && (!isMark(mark) || !isValue(value))) {
            return UNKNOWN;
        }
        if (wantsOneValue && !hasBit(marks, mark)) {
            return STATE;
        }
        if (askings.size() >= MOST_ASKINGS) {
            return FULL;
        }
        askings.add(wantsOneValue ? new Asking(marks, mark, value) : new Asking(marks, NONE, 0));
        return askings.size() - 1;
    }

    public long answer(int asking, int key, int from, int to) {
        if (!isAsking(asking)) {
            return UNKNOWN;
        }
        Asking it = askings.get(asking);
        if (!isName(key) || it.keyOf(key) != key || !isSpan(from, to)) {
            return OUTSIDE;
        }
        return growthOfAlike(it.digits, key, from, to);
    }

    public int keys(int asking, int from, int to) {
        if (!isAsking(asking)) {
            return UNKNOWN;
        }
        if (!isSpan(from, to)) {
            return OUTSIDE;
        }
        gatherKeys(askings.get(asking), from, to);
        return workNames.size;
    }

    public int key(int asking, int i, int from, int to) {
        if (!isAsking(asking)) {
            return UNKNOWN;
        }
        if (!isSpan(from, to)) {
            return OUTSIDE;
        }
        gatherKeys(askings.get(asking), from, to);
        if (i < 0 || i >= workNames.size) {
            return NONE;
        }
        return workNames.row[i];
    }

    public int works(int asking, int from, int to) {
        if (!isAsking(asking)) {
            return UNKNOWN;
        }
        if (!isSpan(from, to)) {
            return OUTSIDE;
        }
        int marks = askings.get(asking).marks;
        if (firstLack(marks, from, to) != NONE) {
            return 0;
        }
        // What is folded stays folded, so the last tick tells for all of the span.
        return shortening.isAnyFolded(marks, to) ? 1 : 2;
    }

    public int lacks(int asking, int from, int to) {
        if (!isAsking(asking)) {
            return UNKNOWN;
        }
        if (!isSpan(from, to)) {
            return OUTSIDE;
        }
        return firstLack(askings.get(asking).marks, from, to);
    }

    // ---- plans

    public int weigh(boolean ofAsking, int which, int weight) {
        boolean isThere = ofAsking ? isAsking(which) : isMark(which);
        if (!isThere) {
            return UNKNOWN;
        }
        if (weight < 0 || weight > MOST_WEIGHT) {
            return OUTSIDE;
        }
        return ofAsking ? askings.get(which).changeWorth(weight) : changeWeight(which, weight);
    }

    public int loss(int marks) {
        if (!isSetOfMarks(marks)) {
            return OUTSIDE;
        }
        return lossOf(marks);
    }

    public int plan(int most, int from, int to) {
        if (most < 0 || most > MOST_SERIES || !isSpan(from, to)) {
            return OUTSIDE;
        }
        gatherSeen(from, to);
        int best = NONE;
        int bestLoss = 0;
        int bestLeft = 0;
        for (int marks = 0; marks <= ALL_MARKS; marks++) {
            int left = namesLeftWithout(marks);
            int lost = lossOf(marks);
            boolean isBetter = best == NONE || lost < bestLoss || (lost == bestLoss && left > bestLeft);
            if (left <= most && isBetter) {
                best = marks;
                bestLoss = lost;
                bestLeft = left;
            }
        }
        return best;
    }

    public int bill(int mark, int value, int from, int to) {
        if (!isMark(mark) || !isValue(value)) {
            return UNKNOWN;
        }
        if (!isSpan(from, to)) {
            return OUTSIDE;
        }
        gatherSeen(from, to);
        int having = 0;
        for (int i = 0; i < seenNames.size; i++) {
            if (digit(seenNames.row[i], mark) == value) {
                having++;
            }
        }
        return having;
    }

    public int count(int what) {
        switch (what) {
            case 0:
                return tick;
            case 1:
                return allSeries.size();
            case 2:
                return samples.size();
            case 3:
                return askings.size();
            case 4:
                return Integer.bitCount(shortening.droppedAt[tick]);
            default:
                return OUTSIDE;
        }
    }

    // ---- what numbers are as told

    private static boolean isMark(int mark) {
        return mark >= 0 && mark < MARKS;
    }

    private static boolean isValue(int value) {
        return value >= 0 && value < VALUES;
    }

    private static boolean isName(int name) {
        return name >= 0 && name <= LAST_NAME;
    }

    private static boolean isSetOfMarks(int marks) {
        return marks >= 0 && marks <= ALL_MARKS;
    }

    private boolean isSeries(int i) {
        return i >= 0 && i < allSeries.size();
    }

    private boolean isAsking(int asking) {
        return asking >= 0 && asking < askings.size();
    }

    private boolean isPastTick(int when) {
        return when >= 0 && when <= tick;
    }

    private boolean isSpan(int from, int to) {
        return from >= 0 && from <= to && to <= tick;
    }

    // ---- digits and bits

    private static int digit(int number, int place) {
        return (number >> (VALUE_BITS * place)) & (VALUES - 1);
    }

    private static int atPlace(int value, int place) {
        return value << (VALUE_BITS * place);
    }

    private static boolean hasBit(int bits, int place) {
        return ((bits >> place) & 1) == 1;
    }

    private static int asNumber(boolean is) {
        return is ? 1 : 0;
    }

    /** A name with all bits set in the digits of these marks, to keep them or to put them to 0. */
    private static int digitsOf(int marks) {
        int digits = 0;
        for (int mark = 0; mark < MARKS; mark++) {
            if (hasBit(marks, mark)) {
                digits |= atPlace(VALUES - 1, mark);
            }
        }
        return digits;
    }

    // ---- what several calls need

    private int numberOf(int name) {
        for (int i = 0; i < allSeries.size(); i++) {
            if (allSeries.get(i).name == name) {
                return i;
            }
        }
        return NONE;
    }

    /** The growth over a span of all series that are like the name in these digits. */
    private long growthOfAlike(int digits, int name, int from, int to) {
        long sum = 0;
        for (int s = 0; s < samples.size(); s++) {
            Sample sample = samples.get(s);
            if (sample.isWithin(from, to) && (sample.name & digits) == (name & digits)) {
                sum += sample.rise;
            }
        }
        return sum;
    }

    /** No two series bear the same name, so the unlike names of the samples stand for the series. */
    private void gatherSeen(int from, int to) {
        seenNames.makeEmpty();
        for (int s = 0; s < samples.size(); s++) {
            Sample sample = samples.get(s);
            if (sample.isWithin(from, to)) {
                seenNames.put(sample.name);
            }
        }
    }

    /** Of the names that were gathered last, so that many plans can be looked at after one gathering. */
    private int namesLeftWithout(int marks) {
        int digits = digitsOf(ALL_MARKS ^ marks);
        workNames.makeEmpty();
        for (int i = 0; i < seenNames.size; i++) {
            workNames.put(seenNames.row[i] & digits);
        }
        return workNames.size;
    }

    private void gatherKeys(Asking asking, int from, int to) {
        gatherSeen(from, to);
        workNames.makeEmpty();
        for (int i = 0; i < seenNames.size; i++) {
            int key = asking.keyOf(seenNames.row[i]);
            if (key != NONE) {
                workNames.put(key);
            }
        }
    }

    private int firstLack(int marks, int from, int to) {
        for (int when = from; when <= to; when++) {
            if ((shortening.droppedAt[when] & marks) != 0) {
                return when;
            }
        }
        return NONE;
    }

    private int changeWeight(int mark, int weight) {
        int before = weights[mark];
        weights[mark] = weight;
        return before;
    }

    private int lossOf(int marks) {
        int sum = 0;
        for (int mark = 0; mark < MARKS; mark++) {
            if (hasBit(marks, mark)) {
                sum += weights[mark];
            }
        }
        for (int a = 0; a < askings.size(); a++) {
            Asking asking = askings.get(a);
            if ((asking.marks & marks) != 0) {
                sum += asking.worth;
            }
        }
        return sum;
    }

    private static final class Series {
        private final int name;
        private final int firstTick;
        private int latestTick;
        private int latestCount;
        private int sampleCount;
        private int restarts;

        Series(int name, int firstTick) {
            this.name = name;
            this.firstTick = firstTick;
            this.latestTick = firstTick;
        }

        /**
         * Answers the growth by the sample. The latest count is 0 ahead of the first sample, which
         * therefore grows by its count and is never below what was before.
         */
        int takeSample(int count, int tick) {
            boolean beganAgain = count < latestCount;
            int rise = beganAgain ? count : count - latestCount;
            if (beganAgain) {
                restarts++;
            }
            sampleCount++;
            latestCount = count;
            latestTick = tick;
            return rise;
        }
    }

    private static final class Sample {
        private final int name;
        private final int tick;
        private final int rise;

        Sample(int name, int tick, int rise) {
            this.name = name;
            this.tick = tick;
            this.rise = rise;
        }

        boolean isWithin(int from, int to) {
            return from <= tick && tick <= to;
        }
    }

    private static final class Asking {
        private final int marks;
        private final int digits;
        private final int wantedMark;
        private final int wantedValue;
        private int worth;

        Asking(int marks, int wantedMark, int wantedValue) {
            this.marks = marks;
            this.digits = digitsOf(marks);
            this.wantedMark = wantedMark;
            this.wantedValue = wantedValue;
        }

        /** NONE for a name without the value wanted: no key tells of it. */
        int keyOf(int name) {
            if (wantedMark != NONE && digit(name, wantedMark) != wantedValue) {
                return NONE;
            }
            return name & digits;
        }

        int changeWorth(int newWorth) {
            int before = worth;
            worth = newWorth;
            return before;
        }
    }

    /**
     * What is dropped and folded at each tick up to the tick that is now. What is told changes the
     * row of its own tick, so that it holds for all of that tick and for none before.
     */
    private static final class Shortening {
        // Octal digit v is the chief of value v: at first each value's own.
        private static final int OWN_CHIEFS = 076543210;

        private final int[] droppedAt = new int[LAST_TICK + 1];
        private final int[] chiefsAt = new int[(LAST_TICK + 1) * MARKS];

        Shortening() {
            for (int mark = 0; mark < MARKS; mark++) {
                chiefsAt[mark] = OWN_CHIEFS;
            }
        }

        void carryOn(int now, int then) {
            for (int when = now + 1; when <= then; when++) {
                droppedAt[when] = droppedAt[now];
                System.arraycopy(chiefsAt, now * MARKS, chiefsAt, when * MARKS, MARKS);
            }
        }

        boolean isDropped(int mark, int tick) {
            return hasBit(droppedAt[tick], mark);
        }

        void setDropped(int mark, boolean is, int tick) {
            int bit = 1 << mark;
            droppedAt[tick] = is ? droppedAt[tick] | bit : droppedAt[tick] & ~bit;
        }

        int chiefOf(int mark, int value, int tick) {
            return digit(chiefsAt[tick * MARKS + mark], value);
        }

        int putTogether(int mark, int a, int b, int tick) {
            int chiefOfA = chiefOf(mark, a, tick);
            int chiefOfB = chiefOf(mark, b, tick);
            int together = Math.min(chiefOfA, chiefOfB);
            int chiefs = 0;
            for (int value = 0; value < VALUES; value++) {
                int before = chiefOf(mark, value, tick);
                boolean joins = before == chiefOfA || before == chiefOfB;
                chiefs |= atPlace(joins ? together : before, value);
            }
            chiefsAt[tick * MARKS + mark] = chiefs;
            return together;
        }

        boolean isAnyFolded(int marks, int tick) {
            for (int mark = 0; mark < MARKS; mark++) {
                if (hasBit(marks, mark) && chiefsAt[tick * MARKS + mark] != OWN_CHIEFS) {
                    return true;
                }
            }
            return false;
        }

        int shorten(int name, int tick) {
            int shortName = 0;
            for (int mark = 0; mark < MARKS; mark++) {
                if (!isDropped(mark, tick)) {
                    shortName |= atPlace(chiefOf(mark, digit(name, mark), tick), mark);
                }
            }
            return shortName;
        }
    }

    /**
     * Unlike names, the least first, in a row that is made once and used again: long enough for a
     * short name of each sample.
     */
    private static final class NameSet {
        private final int[] row = new int[MOST_SAMPLES];
        private int size;

        void makeEmpty() {
            size = 0;
        }

        void put(int name) {
            int place = howManyBelow(name);
            boolean isThere = place < size && row[place] == name;
            if (isThere || size >= row.length) {
                return;
            }
            System.arraycopy(row, place, row, place + 1, size - place);
            row[place] = name;
            size++;
        }

        /** Jumps of halving width: together they reach over the whole row. */
        private int howManyBelow(int name) {
            int below = 0;
            for (int jump = Integer.highestOneBit(size); jump > 0; jump >>= 1) {
                if (below + jump <= size && row[below + jump - 1] < name) {
                    below += jump;
                }
            }
            return below;
        }
    }
}
