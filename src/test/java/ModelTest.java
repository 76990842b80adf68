import java.util.Random;

/** Runs of 512 mixed calls, each answer compared with the Model's; the seeds are fixed, so every run is the same. */
public final class ModelTest {
    private static final int RUNS = 400, CALLS = 512;
    private static final int[] ODD = {Integer.MIN_VALUE, Integer.MAX_VALUE, -10001, 10001, -10000, 10000,
        -1, 0, 1, 5, 6, 7, 8, 19, 20, 60, 61, 100, 101, 199, 200};
    private static final String[] NAMES = {"add", "read", "read", "read", "weigh", "over", "clear", "cost",
        "tell", "tell", "sweep", "alarm", "alarm", "costs", "trace", "trace", "count", "read", "sweep"};

    public static void main(String[] args) {
        for (int seed = 0; seed < RUNS; seed++) {
            compare(new Random(seed), "seed " + seed);
        }
        Run.end();
    }

    private static void compare(Random random, String run) {
        AlarmKinds panel = new AlarmKinds();
        Model model = new Model();
        int spread = new int[] {4, 40, 400, 10000}[random.nextInt(4)];
        int detectors = random.nextInt(22);
        int calls = 0;
        for (; calls < detectors; calls++) {
            check(run, panel, model, "add", arguments("add", random, spread));
        }
        int looks = 9 * detectors;
        for (; calls < CALLS - looks; calls++) {
            String name = NAMES[random.nextInt(NAMES.length)];
            boolean rareAdd = name.equals("add") && random.nextInt(4) > 0;
            name = rareAdd ? "clear" : name;
            check(run, panel, model, name, arguments(name, random, spread));
        }
        for (int i = 0; i < looks; i++) {
            check(run, panel, model, i < 8 * detectors ? "tell" : "trace",
                i < 8 * detectors ? new int[] {i / 8, i % 8} : new int[] {random.nextInt(202)});
        }
    }

    private static void check(String run, AlarmKinds panel, Model model, String name, int[] arguments) {
        StringBuilder call = new StringBuilder(name).append('(');
        for (int i = 0; i < arguments.length; i++) {
            call.append(i == 0 ? "" : ", ").append(arguments[i]);
        }
        call.append(')');
        Run.same(run + ": " + call, Run.answer(panel, call.toString()), model.answer(name, arguments));
    }

    private static int[] arguments(String name, Random random, int spread) {
        int[] made = ordinary(name, random, spread);
        if (made.length > 0 && random.nextInt(25) == 0) {
            made[random.nextInt(made.length)] = ODD[random.nextInt(ODD.length)];
        }
        return made;
    }

    private static int[] ordinary(String name, Random random, int spread) {
        int value = random.nextInt(2 * spread + 1) - spread;
        int detector = random.nextInt(20);
        switch (name) {
            case "add": return new int[] {random.nextInt(8), random.nextInt(6), value / 2, random.nextInt(30)};
            case "read":
            case "weigh": return new int[] {detector, value};
            case "tell": return new int[] {detector, random.nextInt(8)};
            case "sweep": return new int[] {random.nextInt(6), value};
            case "alarm": return new int[] {random.nextInt(6), 1 + random.nextInt(8)};
            case "trace": return new int[] {random.nextInt(200)};
            case "count": return new int[] {random.nextInt(4)};
            case "costs": return new int[0];
            default: return new int[] {detector};
        }
    }
}
