import java.util.Random;

/** Long runs of mixed calls, each answer against the one that the model gives; the seeds are fixed. */
public final class ModelTest {
    private static final int RUNS = 300;
    private static final int CALLS = 512;
    private static final Checks c = new Checks();
    /** How often calls were answered with something, and with NONE or a refusal: both must be tested. */
    private static final int[] answered = new int[Calls.KINDS];
    private static final int[] refused = new int[Calls.KINDS];

    public static void main(String[] args) {
        for (int run = 0; run < RUNS && c.isAllRight(); run++) {
            oneRun(run);
        }
        for (int kind = 0; kind < Calls.KINDS && c.isAllRight(); kind++) {
            c.holds("calls of kind " + kind + " were answered often", answered[kind] >= 500);
            c.holds("calls of kind " + kind + " were refused often", refused[kind] >= 50);
        }
        c.end();
    }

    private static void oneRun(int run) {
        Random random = new Random(run);
        int[] spreads = {1, 2, 3, 8};
        int[] wildnesses = {0, 20, 150};
        Calls calls = new Calls(run, spreads[run % 4], wildnesses[run % 3]);
        SeriesMarks x = new SeriesMarks();
        Model model = new Model();
        int tells = random.nextInt(60);
        for (int i = 0; i < CALLS; i++) {
            int kind = random.nextInt(100) < tells ? 1 : random.nextInt(Calls.KINDS);
            int[] a = calls.arguments(kind);
            long got = Calls.call(x, kind, a);
            long want = model.call(kind, a[0], a[1], a[2], a[3]);
            c.due("run " + run + ", call " + i + ": " + Calls.told(kind, a), got, want);
            if (want >= 0) {
                answered[kind]++;
            } else {
                refused[kind]++;
            }
            calls.learn(kind, a, want);
        }
    }
}
