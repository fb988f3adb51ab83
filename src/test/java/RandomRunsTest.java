import java.util.Random;
import java.util.TreeMap;

/** All promises: long runs of calls, from fixed seeds, each answer held against that of the Model. */
public final class RandomRunsTest {
    private static final Checks CHECKS = new Checks("RandomRunsTest");
    private static final int RUNS = 1500;
    private static final int CALLS = Replay.MOST_CALLS;
    /** The calls that lead on stand more often, so that runs get to pieces that can be played and learned. */
    private static final String[] NAMES = {
        "begin", "addNote", "addNote", "addNote", "addNote", "addNote", "addNote", "addNote", "addNote", "transpose",
        "pitch", "tune", "tune", "owner", "instruments", "shifts", "shifts", "shiftsByAll", "shiftsByAll", "hardest",
        "position", "position", "string", "string", "learn", "learn", "learn", "level", "known", "next", "next",
        "addWood", "order", "order", "ready", "fetch", "fetch", "fetch", "pass", "today"};
    private static final int[] STRANGE = {Integer.MIN_VALUE, Integer.MAX_VALUE, -1, 1 << 16, -1 << 31 | 1, 100};

    public static void main(String[] args) {
        TreeMap<String, Integer> seen = new TreeMap<>();
        for (int run = 0; run < RUNS; run++) {
            run(run, seen);
        }
        for (String name : NAMES) {
            if (!seen.containsKey(name)) {
                CHECKS.fail(name + " never answered");
            }
        }
        CHECKS.end();
    }

    private static void run(int seed, TreeMap<String, Integer> seen) {
        Random random = new Random(seed);
        FretSchool school = new FretSchool();
        Model model = new Model();
        // A low base puts the pitches of strings and notes near one another, so that much can be played.
        int base = random.nextInt(50);
        for (int call = 0; call < CALLS; call++) {
            String name = NAMES[random.nextInt(NAMES.length)];
            int[] a = arguments(name, random, base);
            String due = model.answer(name, a);
            String got = Call.of(name, a).on(school);
            if (!got.equals(due)) {
                CHECKS.fail("seed " + seed + ", call " + call + ": " + name + java.util.Arrays.toString(a)
                        + " answered " + got + ", due is " + due);
                return;
            }
            if (!Call.isRefusal(got)) {
                seen.merge(name, 1, Integer::sum);
            }
        }
    }

    private static int[] arguments(String name, Random random, int base) {
        int[] a = new int[5];
        for (int i = 0; i < a.length; i++) {
            a[i] = argument(name, i, random, base);
        }
        if (random.nextInt(60) == 0) {
            a[random.nextInt(a.length)] = STRANGE[random.nextInt(STRANGE.length)];
        }
        return a;
    }

    /** Mostly in range, at times just past either end of it. */
    private static int argument(String name, int i, Random random, int base) {
        switch (name + i) {
            case "addNote1": return random.nextInt(30) == 0 ? edge(random, 0, 80) : base + random.nextInt(30);
            case "transpose1": return random.nextInt(5) == 0 ? edge(random, -40, 40) : random.nextInt(11) - 5;
            case "tune1": return random.nextInt(6) - random.nextInt(2);
            case "tune2": case "fetch1": case "fetch2": case "fetch3": case "fetch4":
                return random.nextInt(50) == 0 ? edge(random, 0, 60) : Math.min(60, base + random.nextInt(20));
            case "addWood1": return random.nextInt(10) == 0 ? edge(random, 1, 20) : 1 + random.nextInt(20);
            case "order2": return random.nextInt(10) == 0 ? edge(random, 4, 16) : 4 + random.nextInt(13);
            case "pass0": return random.nextInt(5) == 0 ? edge(random, 1, 100) : 1 + random.nextInt(60);
            case "fetch0": case "ready0": return random.nextInt(20) - random.nextInt(2);
            case "position1": case "string1": case "pitch1": return random.nextInt(9) - random.nextInt(2);
            default: return random.nextInt(12) == 0 ? edge(random, 0, 8) : random.nextInt(4);
        }
    }

    private static int edge(Random random, int least, int most) {
        int[] edges = {least - 1, least, least + 1, most - 1, most, most + 1};
        return edges[random.nextInt(edges.length)];
    }
}
