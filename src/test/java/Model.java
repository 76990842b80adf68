import java.util.ArrayList;
import java.util.List;

/** The document told a second time, by tables of kinds instead of classes, to compare answers with. */
final class Model {
    private static final int UNKNOWN = -101, OUTSIDE = -102, ROOM = -104;
    private static final int[] UNDER = {-1, 0, 1, 1, 2, 2, 1, 3};
    /** For each act, the kinds that tell a rule of it. */
    private static final String[] TELLS = {"0235", "0347", "046", "0567", "0267", "017"};
    private static final int KIND = 0, ZONE = 1, LIMIT = 2, CHARGE = 3, LEVEL = 4, COUNT = 5, DRIFT = 6, LATCHED = 7;
    private static final int WEIGH = 0, READ = 1, OVER = 2, CLEAR = 3, COST = 4, VOTES = 5;

    private final List<int[]> detectors = new ArrayList<>();
    private final List<Integer> rules = new ArrayList<>();
    private int flats;
    private int arithmetics;

    /** What ends an act. */
    private static final class Ended extends Exception {
        private static final long serialVersionUID = 1;

        Ended(String name) {
            super(name);
        }
    }

    String answer(String name, int... a) {
        try {
            return String.valueOf(number(name, a));
        } catch (Ended e) {
            return e.getMessage();
        }
    }

    private int number(String name, int[] a) throws Ended {
        switch (name) {
            case "add": return add(a);
            case "read": return ofDetector(READ, a);
            case "weigh": return ofDetector(WEIGH, a);
            case "over": return ofDetector(OVER, a);
            case "clear": return ofDetector(CLEAR, a);
            case "cost": return ofDetector(COST, a);
            case "tell": return !known(a[0]) ? UNKNOWN : within(a[1], 0, 7) ? detectors.get(a[0])[a[1]] : OUTSIDE;
            case "sweep": return within(a[0], 0, 5) && within(a[1], -10000, 10000) ? sweep(a[0], a[1]) : OUTSIDE;
            case "alarm": return within(a[0], 0, 5) && within(a[1], 1, 60) ? alarm(a[0], a[1]) : OUTSIDE;
            case "costs": return costs();
            case "trace": return within(a[0], 0, Math.min(200, rules.size()) - 1)
                ? rules.get(rules.size() - 1 - a[0]) : UNKNOWN;
            case "count": return within(a[0], 0, 3)
                ? new int[] {detectors.size(), rules.size(), flats, arithmetics}[a[0]] : OUTSIDE;
            default: throw new IllegalArgumentException(name);
        }
    }

    private static boolean within(int value, int low, int high) {
        return low <= value && value <= high;
    }

    private boolean known(int detector) {
        return within(detector, 0, detectors.size() - 1);
    }

    private int add(int[] a) {
        boolean fits = within(a[0], 0, 7) && within(a[1], 0, 5) && within(a[2], -10000, 10000) && within(a[3], 0, 100);
        if (!fits) {
            return OUTSIDE;
        }
        if (detectors.size() == 20) {
            return ROOM;
        }
        detectors.add(new int[] {a[0], a[1], a[2], a[3], 0, 0, 0, 0});
        return detectors.size() - 1;
    }

    private int ofDetector(int act, int[] a) throws Ended {
        if (!known(a[0])) {
            return UNKNOWN;
        }
        if (a.length > 1 && !within(a[1], -10000, 10000)) {
            return OUTSIDE;
        }
        int[] d = detectors.get(a[0]);
        int given = own(act, d, a.length > 1 ? a[1] : 0);
        return act == READ ? d[LEVEL] : act == CLEAR ? 1 : given;
    }

    private int sweep(int zone, int v) {
        int failed = 0;
        for (int[] d : detectors) {
            try {
                if (d[ZONE] == zone) {
                    own(READ, d, v);
                }
            } catch (Ended e) {
                failed++;
            }
        }
        return failed;
    }

    private int alarm(int zone, int votes) throws Ended {
        int sum = 0;
        for (int[] d : detectors) {
            sum += d[ZONE] == zone ? own(VOTES, d, 0) : 0;
        }
        return sum >= votes ? 1 : 0;
    }

    private int costs() throws Ended {
        int sum = 0;
        for (int[] d : detectors) {
            sum += own(COST, d, 0);
        }
        return sum;
    }

    private int own(int act, int[] d, int v) throws Ended {
        return from(act, d[KIND], d, v);
    }

    /** The act as a kind has it: by the first kind, from there on down, that tells a rule. */
    private int from(int act, int kind, int[] d, int v) throws Ended {
        int teller = kind;
        while (TELLS[act].indexOf('0' + teller) < 0) {
            teller = UNDER[teller];
        }
        if (act != VOTES) {
            rules.add(10 * act + teller);
        }
        switch (act) {
            case WEIGH: return weigh(teller, d, v);
            case READ: return read(teller, d, v);
            case OVER: return over(teller, d);
            case CLEAR: return clear(teller, d);
            case COST: return cost(teller, d);
            default: return own(OVER, d, 0) * (teller == 0 ? 3 : teller == 1 ? 1 : 2);
        }
    }

    private int weigh(int teller, int[] d, int v) throws Ended {
        if (teller == 0) {
            return v;
        }
        if (teller == 2) {
            if (d[CHARGE] == 0) {
                flats++;
                throw new Ended("IllegalStateException");
            }
            d[CHARGE]--;
        }
        int below = from(WEIGH, UNDER[teller], d, v);
        if (teller == 5 && below == 0) {
            arithmetics++;
            throw new Ended("ArithmeticException");
        }
        return teller == 2 ? below : teller == 3 ? below - d[DRIFT] : 1000 / below;
    }

    private int read(int teller, int[] d, int v) throws Ended {
        if (teller == 0) {
            int weighed = own(WEIGH, d, v);
            d[LEVEL] = (3 * d[LEVEL] + weighed) / 4;
            d[COUNT]++;
            return 0;
        }
        from(READ, UNDER[teller], d, v);
        if (teller == 3) {
            d[DRIFT] += Integer.compare(d[LEVEL], d[DRIFT]);
        }
        if (teller == 4 && v > d[LEVEL]) {
            from(READ, UNDER[teller], d, v);
        }
        if (teller == 7) {
            from(READ, UNDER[teller], d, -v);
        }
        return 0;
    }

    private int over(int teller, int[] d) throws Ended {
        if (teller == 0) {
            return d[LEVEL] >= d[LIMIT] ? 1 : 0;
        }
        if (teller == 6 && d[LATCHED] == 1) {
            return 1;
        }
        int below = from(OVER, UNDER[teller], d, 0);
        if (teller == 6) {
            d[LATCHED] = below;
        }
        return teller == 4 && d[COUNT] < 3 ? 0 : below;
    }

    private int clear(int teller, int[] d) throws Ended {
        if (teller == 0) {
            d[LEVEL] = 0;
            d[COUNT] = 0;
            return 0;
        }
        from(CLEAR, UNDER[teller], d, 0);
        d[CHARGE] += teller == 5 ? 1 : 0;
        d[LATCHED] = teller == 6 ? 0 : d[LATCHED];
        d[DRIFT] = teller == 7 ? 0 : d[DRIFT];
        return 0;
    }

    private int cost(int teller, int[] d) throws Ended {
        if (teller == 0) {
            return 10 + d[COUNT];
        }
        int below = from(COST, UNDER[teller], d, 0);
        return teller == 2 ? 2 * below : teller == 6 ? 5 + below : below * (1 + Math.abs(d[DRIFT]));
    }
}
