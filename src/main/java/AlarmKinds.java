/** A panel of detectors whose kinds stand upon one another; the document is DOC.md. */
public final class AlarmKinds {
    public static final int UNKNOWN = -101, OUTSIDE = -102, ROOM = -104;

    private static final int PLAIN = 0, WIRED = 1, RADIO = 2, SMOKE = 3;
    private static final int HEAT = 4, BEAM = 5, FLOOD = 6, TWIN = 7;

    private static final int WEIGH = 0, READ = 1, OVER = 2, CLEAR = 3, COST = 4;

    private static final int MOST_DETECTORS = 20, LAST_ZONE = 5, MOST_CHARGE = 100;
    private static final int FARTHEST = 10000, MOST_VOTES = 60, TRACE_KEPT = 200;

    private final Plain[] detectors;
    private final Trace trace;
    private int made;

    public AlarmKinds() {
        detectors = new Plain[MOST_DETECTORS];
        trace = new Trace();
        made = 0;
    }

    public int add(int kind, int zone, int limit, int charge) {
        if (!isKind(kind) || !isZone(zone) || !isNear(limit) || !isCharge(charge)) {
            return OUTSIDE;
        }
        if (made >= detectors.length) {
            return ROOM;
        }
        detectors[made] = make(kind, zone, limit, charge);
        made++;
        return made - 1;
    }

    public int read(int detector, int v) throws IllegalStateException, ArithmeticException {
        Plain found = find(detector);
        if (found == null) {
            return UNKNOWN;
        }
        if (!isNear(v)) {
            return OUTSIDE;
        }
        found.doRead(v);
        return found.level;
    }

    public int weigh(int detector, int v) throws IllegalStateException, ArithmeticException {
        Plain found = find(detector);
        if (found == null) {
            return UNKNOWN;
        }
        if (!isNear(v)) {
            return OUTSIDE;
        }
        return found.doWeigh(v);
    }

    public int over(int detector) {
        Plain found = find(detector);
        if (found == null) {
            return UNKNOWN;
        }
        return found.doOver() ? 1 : 0;
    }

    public int clear(int detector) {
        Plain found = find(detector);
        if (found == null) {
            return UNKNOWN;
        }
        found.doClear();
        return 1;
    }

    public int cost(int detector) {
        Plain found = find(detector);
        if (found == null) {
            return UNKNOWN;
        }
        return found.doCost();
    }

    public int tell(int detector, int what) {
        Plain found = find(detector);
        if (found == null) {
            return UNKNOWN;
        }
        switch (what) {
            case 0: return found.kind;
            case 1: return found.zone;
            case 2: return found.limit;
            case 3: return found.charge;
            case 4: return found.level;
            case 5: return found.count;
            case 6: return found.drift;
            case 7: return found.latched ? 1 : 0;
            default: return OUTSIDE;
        }
    }

    public int sweep(int zone, int v) {
        if (!isZone(zone) || !isNear(v)) {
            return OUTSIDE;
        }
        int failed = 0;
        for (int i = 0; i < made; i++) {
            Plain found = findIn(zone, i);
            if (found != null) {
                try {
                    found.doRead(v);
                } catch (IllegalStateException flat) {
                    failed++;
                } catch (ArithmeticException arithmetic) {
                    failed++;
                }
            }
        }
        return failed;
    }

    public int alarm(int zone, int votes) {
        if (!isZone(zone) || votes < 1 || votes > MOST_VOTES) {
            return OUTSIDE;
        }
        int given = 0;
        // No early end: being asked may latch a detector, and it comes into the trace.
        for (int i = 0; i < made; i++) {
            Plain found = findIn(zone, i);
            if (found != null) {
                given += found.doVotes();
            }
        }
        return given >= votes ? 1 : 0;
    }

    public int costs() {
        int sum = 0;
        for (int i = 0; i < made; i++) {
            Plain found = find(i);
            if (found != null) {
                sum += found.doCost();
            }
        }
        return sum;
    }

    public int trace(int i) {
        return trace.at(i);
    }

    public int count(int what) {
        switch (what) {
            case 0: return made;
            case 1: return trace.begun;
            case 2: return trace.flats;
            case 3: return trace.arithmetics;
            default: return OUTSIDE;
        }
    }

    private Plain find(int detector) {
        if (detector < 0 || detector >= made || detector >= detectors.length) {
            return null;
        }
        return detectors[detector];
    }

    private Plain findIn(int zone, int detector) {
        Plain found = find(detector);
        return found != null && found.zone == zone ? found : null;
    }

    private Plain make(int kind, int zone, int limit, int charge) {
        switch (kind) {
            case WIRED: return new Wired(trace, kind, zone, limit, charge);
            case RADIO: return new Radio(trace, kind, zone, limit, charge);
            case SMOKE: return new Smoke(trace, kind, zone, limit, charge);
            case HEAT: return new Heat(trace, kind, zone, limit, charge);
            case BEAM: return new Beam(trace, kind, zone, limit, charge);
            case FLOOD: return new Flood(trace, kind, zone, limit, charge);
            case TWIN: return new Twin(trace, kind, zone, limit, charge);
            default: return new Plain(trace, kind, zone, limit, charge);
        }
    }

    private static boolean isKind(int kind) {
        return kind >= PLAIN && kind <= TWIN;
    }

    private static boolean isZone(int zone) {
        return zone >= 0 && zone <= LAST_ZONE;
    }

    private static boolean isNear(int value) {
        return value >= -FARTHEST && value <= FARTHEST;
    }

    private static boolean isCharge(int charge) {
        return charge >= 0 && charge <= MOST_CHARGE;
    }

    /** The latest rules that began, in a ring, and the counts of what was done ever. */
    private static final class Trace {
        final int[] ring;
        int next;
        int kept;
        int begun;
        int flats;
        int arithmetics;

        Trace() {
            ring = new int[TRACE_KEPT];
        }

        void begin(int act, int kind) {
            if (next >= ring.length) {
                next = 0;
            }
            ring[next] = 10 * act + kind;
            next++;
            if (kept < ring.length) {
                kept++;
            }
            begun++;
        }

        int at(int i) {
            if (i < 0 || i >= kept) {
                return UNKNOWN;
            }
            int place = next - 1 - i;
            return ring[place < 0 ? place + ring.length : place];
        }
    }

    /*
     * Each class below tells the rules of one kind: a call by super is the document's BELOW,
     * a call without it is the act of the detector's own kind.
     */

    private static class Plain {
        final Trace trace;
        final int kind;
        final int zone;
        final int limit;
        int charge;
        int level;
        int count;
        int drift;
        boolean latched;

        Plain(Trace trace, int kind, int zone, int limit, int charge) {
            this.trace = trace;
            this.kind = kind;
            this.zone = zone;
            this.limit = limit;
            this.charge = charge;
        }

        int doWeigh(int v) {
            trace.begin(WEIGH, PLAIN);
            return v;
        }

        void doRead(int v) {
            trace.begin(READ, PLAIN);
            int weighed = doWeigh(v);
            level = (3 * level + weighed) / 4;
            count++;
        }

        boolean doOver() {
            trace.begin(OVER, PLAIN);
            return level >= limit;
        }

        void doClear() {
            trace.begin(CLEAR, PLAIN);
            level = 0;
            count = 0;
        }

        int doCost() {
            trace.begin(COST, PLAIN);
            return 10 + count;
        }

        // The rules of VOTES stay out of the trace, as the document asks.
        int doVotes() {
            return doOver() ? 3 : 0;
        }
    }

    private static class Wired extends Plain {
        Wired(Trace trace, int kind, int zone, int limit, int charge) {
            super(trace, kind, zone, limit, charge);
        }

        @Override
        int doVotes() {
            return doOver() ? 1 : 0;
        }
    }

    private static class Radio extends Wired {
        Radio(Trace trace, int kind, int zone, int limit, int charge) {
            super(trace, kind, zone, limit, charge);
        }

        @Override
        int doWeigh(int v) {
            trace.begin(WEIGH, RADIO);
            if (charge == 0) {
                trace.flats++;
                throw new IllegalStateException("the detector is flat");
            }
            charge--;
            return super.doWeigh(v);
        }

        @Override
        int doCost() {
            trace.begin(COST, RADIO);
            return 2 * super.doCost();
        }
    }

    private static class Smoke extends Wired {
        Smoke(Trace trace, int kind, int zone, int limit, int charge) {
            super(trace, kind, zone, limit, charge);
        }

        @Override
        int doWeigh(int v) {
            trace.begin(WEIGH, SMOKE);
            return super.doWeigh(v) - drift;
        }

        @Override
        void doRead(int v) {
            trace.begin(READ, SMOKE);
            super.doRead(v);
            if (level > drift) {
                drift++;
            } else if (level < drift) {
                drift--;
            }
        }
    }

    private static final class Heat extends Radio {
        Heat(Trace trace, int kind, int zone, int limit, int charge) {
            super(trace, kind, zone, limit, charge);
        }

        @Override
        void doRead(int v) {
            trace.begin(READ, HEAT);
            super.doRead(v);
            if (v > level) {
                super.doRead(v);
            }
        }

        @Override
        boolean doOver() {
            trace.begin(OVER, HEAT);
            return super.doOver() && count >= 3;
        }
    }

    private static final class Beam extends Radio {
        Beam(Trace trace, int kind, int zone, int limit, int charge) {
            super(trace, kind, zone, limit, charge);
        }

        @Override
        int doWeigh(int v) {
            trace.begin(WEIGH, BEAM);
            int below = super.doWeigh(v);
            if (below == 0) {
                trace.arithmetics++;
                throw new ArithmeticException("1000 by 0");
            }
            return 1000 / below;
        }

        @Override
        void doClear() {
            trace.begin(CLEAR, BEAM);
            super.doClear();
            charge++;
        }
    }

    private static final class Flood extends Wired {
        Flood(Trace trace, int kind, int zone, int limit, int charge) {
            super(trace, kind, zone, limit, charge);
        }

        @Override
        boolean doOver() {
            trace.begin(OVER, FLOOD);
            if (!latched) {
                latched = super.doOver();
            }
            return latched;
        }

        @Override
        void doClear() {
            trace.begin(CLEAR, FLOOD);
            super.doClear();
            latched = false;
        }

        @Override
        int doCost() {
            trace.begin(COST, FLOOD);
            return 5 + super.doCost();
        }
    }

    private static final class Twin extends Smoke {
        Twin(Trace trace, int kind, int zone, int limit, int charge) {
            super(trace, kind, zone, limit, charge);
        }

        @Override
        void doRead(int v) {
            trace.begin(READ, TWIN);
            super.doRead(v);
            super.doRead(-v);
        }

        @Override
        void doClear() {
            trace.begin(CLEAR, TWIN);
            super.doClear();
            drift = 0;
        }

        @Override
        int doCost() {
            trace.begin(COST, TWIN);
            return super.doCost() * (1 + Math.abs(drift));
        }

        @Override
        int doVotes() {
            return doOver() ? 2 : 0;
        }
    }
}
