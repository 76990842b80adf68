/** The boundary cases of each promise: the last value that is taken and the first that is refused, on either side. */
public final class PromisesEdgesTest {
    private static final int UNKNOWN = -101, OUTSIDE = -102;
    private static final int LOWEST = Integer.MIN_VALUE, HIGHEST = Integer.MAX_VALUE;
    private static final String FLAT = "IllegalStateException", ARITHMETIC = "ArithmeticException";

    public static void main(String[] args) {
        newObject();
        newObjectsAreApart();
        addKind();
        addZone();
        addLimit();
        addCharge();
        readBounds();
        readAnswersLikeCodes();
        readThrows();
        weighBounds();
        weighAnswersLikeCodes();
        weighAlone();
        weighThrows();
        overClearAndCostOfEdges();
        tellWhat();
        tellAnswersLikeCodes();
        sweepZones();
        sweepValues();
        sweepOfNoneAndOfTwenty();
        sweepGoesOnAfterFailures();
        alarmZones();
        alarmVotes();
        alarmSoManyOrMore();
        alarmAsksAll();
        costsOfNoneAndOfTwenty();
        tracePlaces();
        countWhat();
        countsEver();
        Run.end();
    }

    private static void newObject() {
        Run run = new Run("1: No DETECTORS, THE TRACE is empty");
        run.due("count(0)", 0).due("count(1)", 0).due("count(2)", 0).due("count(3)", 0);
        run.due("trace(0)", UNKNOWN).due("trace(1)", UNKNOWN).due("trace(199)", UNKNOWN).due("tell(0, 0)", UNKNOWN);
        run.due("add(0, 0, 0, 0)", 0).due("trace(0)", UNKNOWN);
    }

    private static void newObjectsAreApart() {
        Run first = new Run("1: an object that is used").after("add(2, 0, 0, 0)").due("read(0, 1)", FLAT);
        Run second = new Run("1: an object beside it").due("count(0)", 0).due("count(1)", 0).due("count(2)", 0);
        second.due("trace(0)", UNKNOWN).due("tell(0, 0)", UNKNOWN).due("add(7, 5, 9, 9)", 0).due("cost(0)", 10);
        first.due("count(1)", 2).due("tell(0, 0)", 2).trace(10, 2);
    }

    private static void addKind() {
        Run run = new Run("2: OUTSIDE: KIND").due("add(0, 0, 0, 0)", 0).due("add(7, 0, 0, 0)", 1);
        run.due("tell(0, 0)", 0).due("tell(1, 0)", 7);
        refused(run, "add(#, 0, 0, 0)", -1, 8).due("count(0)", 2);
    }

    private static void addZone() {
        Run run = new Run("2: OUTSIDE: ZONE").due("add(0, 0, 0, 0)", 0).due("add(0, 5, 0, 0)", 1);
        run.due("tell(0, 1)", 0).due("tell(1, 1)", 5);
        refused(run, "add(0, #, 0, 0)", -1, 6).due("count(0)", 2);
    }

    private static void addLimit() {
        Run run = new Run("2: OUTSIDE: LIMIT (-10000 .. 10000)").due("add(0, 0, -10000, 0)", 0).due("add(0, 0, 10000, 0)", 1);
        run.due("tell(0, 2)", -10000).due("tell(1, 2)", 10000);
        refused(run, "add(0, 0, #, 0)", -10001, 10001).due("count(0)", 2);
    }

    private static void addCharge() {
        Run run = new Run("2: OUTSIDE: CHARGE (0 .. 100)").due("add(0, 0, 0, 0)", 0).due("add(0, 0, 0, 100)", 1);
        run.due("tell(0, 3)", 0).due("tell(1, 3)", 100);
        refused(run, "add(0, 0, 0, #)", -1, 101).due("count(0)", 2);
    }

    private static void readBounds() {
        Run run = new Run("3: READ of v (-10000 .. 10000)").after("add(0, 0, 0, 0)").after("add(0, 0, 0, 0)");
        run.due("read(0, 10000)", 2500).due("read(1, -10000)", -2500).due("tell(0, 4)", 2500).due("tell(1, 4)", -2500);
        refused(run, "read(0, #)", -10001, 10001).due("tell(0, 4)", 2500).due("tell(0, 5)", 1).due("count(1)", 4);
    }

    private static void readAnswersLikeCodes() {
        for (int level : new int[] {-101, -102, -104}) {
            Run run = new Run("3: a LEVEL that looks like a code").after("add(0, 0, 0, 0)");
            run.due("read(0, " + 4 * level + ")", level).due("tell(0, 4)", level).due("tell(0, 5)", 1).due("count(1)", 2);
        }
    }

    private static void readThrows() {
        Run run = new Run("3: FLAT; ARITHMETIC").after("add(5, 0, 0, 2)").due("read(0, 1)", 250);
        run.due("read(0, 0)", ARITHMETIC).due("read(0, 0)", FLAT).due("read(0, 1)", FLAT);
        run.state(0, 5, 0, 0, 0, 250, 1, 0, 0).due("count(2)", 2).due("count(3)", 1);
    }

    private static void weighBounds() {
        Run run = new Run("4: WEIGH of v (-10000 .. 10000)").after("add(0, 0, 0, 0)");
        run.due("weigh(0, 10000)", 10000).due("weigh(0, -10000)", -10000);
        refused(run, "weigh(0, #)", -10001, 10001).due("count(1)", 2);
    }

    private static void weighAnswersLikeCodes() {
        Run run = new Run("4: it may be below -100, too").after("add(0, 0, 0, 0)").after("add(5, 0, 0, 9)");
        int rules = 0;
        for (int v : new int[] {-100, -101, -102, -103, -104, -105}) {
            rules++;
            run.due("weigh(0, " + v + ")", v).due("count(1)", rules);
        }
        run.due("weigh(1, -9)", -111).due("weigh(1, -1)", -1000);
    }

    private static void weighAlone() {
        for (int kind = 0; kind < 8; kind++) {
            Run run = new Run("4: WEIGH alone, kind " + kind).after("add(" + kind + ", 0, 0, 9)").after("weigh(0, 10000)");
            boolean charged = kind == 2 || kind == 4 || kind == 5;
            run.state(0, kind, 0, 0, charged ? 8 : 9, 0, 0, 0, 0);
        }
    }

    private static void weighThrows() {
        Run run = new Run("4: FLAT; ARITHMETIC").after("add(5, 0, 0, 2)").due("weigh(0, 1)", 1000);
        run.due("weigh(0, 0)", ARITHMETIC).due("weigh(0, 0)", FLAT).due("weigh(0, 1)", FLAT);
        run.state(0, 5, 0, 0, 0, 0, 0, 0, 0).due("count(2)", 2).due("count(3)", 1);
    }

    private static void overClearAndCostOfEdges() {
        for (String act : new String[] {"over", "clear", "cost"}) {
            int given = act.equals("cost") ? 10 : 1;
            Run run = new Run("5, 6, 7: " + act + ", UNKNOWN").after("add(0, 0, 0, 0)").after("add(0, 0, 0, 0)");
            run.due(act + "(0)", given).due(act + "(1)", given).due("count(1)", 2);
            for (int detector : new int[] {-1, 2, 19, 20, LOWEST, HIGHEST}) {
                run.due(act + "(" + detector + ")", UNKNOWN);
            }
            run.due("count(1)", 2);
        }
    }

    private static void tellWhat() {
        Run run = new Run("8: Of a DETECTOR: 0 .. 7").after("add(6, 4, 3, 33)").after("read(0, 16)").after("over(0)");
        run.due("tell(0, 0)", 6).due("tell(0, 7)", 1);
        refused(run, "tell(0, #)", -1, 8).state(0, 6, 4, 3, 33, 4, 1, 0, 1).due("count(1)", 4);
    }

    private static void tellAnswersLikeCodes() {
        for (int code : new int[] {-101, -102, -104}) {
            Run run = new Run("8: which LIMIT, LEVEL, DRIFT may be, " + code).after("add(3, 0, " + code + ", 0)");
            run.due("tell(0, 2)", code).after(-code, "read(0, -10000)").due("tell(0, 6)", code);
            run.after("add(0, 0, 0, 0)").after("read(1, " + 4 * code + ")").due("tell(1, 4)", code);
        }
    }

    private static void sweepZones() {
        Run run = new Run("9: OUTSIDE: the ZONE").after("add(2, 0, 0, 0)").after("add(2, 5, 0, 0)");
        run.due("sweep(0, 1)", 1).due("sweep(5, 1)", 1).due("sweep(1, 1)", 0).due("sweep(4, 1)", 0).due("count(2)", 2);
        refused(run, "sweep(#, 1)", -1, 6).due("count(2)", 2);
    }

    private static void sweepValues() {
        Run run = new Run("9: OUTSIDE: v").after("add(0, 0, 0, 0)").due("sweep(0, 10000)", 0).due("tell(0, 4)", 2500);
        run.due("sweep(0, -10000)", 0).due("tell(0, 4)", -625);
        refused(run, "sweep(0, #)", -10001, 10001).due("tell(0, 4)", -625).due("tell(0, 5)", 2);
    }

    private static void sweepOfNoneAndOfTwenty() {
        Run run = new Run("9: how many failed, of none and of 20");
        for (int zone = 0; zone < 6; zone++) {
            run.due("sweep(" + zone + ", 0)", 0);
        }
        run.due("count(1)", 0).after(20, "add(2, 3, 0, 1)").due("sweep(3, 4)", 0).due("sweep(3, 4)", 20);
        run.due("count(2)", 20).due("tell(0, 4)", 1).due("tell(19, 4)", 1).due("tell(19, 5)", 1).due("sweep(2, 4)", 0);
    }

    private static void sweepGoesOnAfterFailures() {
        Run run = new Run("9: one that is FLAT or ARITHMETIC counts as failed, and the next one is read");
        run.after("add(2, 1, 0, 0)").after("add(0, 1, 0, 0)").after("add(5, 1, 0, 9)").after("add(0, 2, 0, 0)");
        run.after("add(4, 1, -9, 1)").after("add(1, 1, 0, 0)");
        run.due("sweep(1, 0)", 2).trace(10, 2, 10, 0, 10, 5, 2, 0, 14, 10, 2, 0, 10, 0);
        run.due("tell(1, 5)", 1).due("tell(3, 5)", 0).due("tell(5, 5)", 1).due("count(1)", 14);
        run.due("sweep(1, 4)", 2).due("tell(5, 4)", 1).due("count(2)", 3).due("count(3)", 1);
    }

    private static void alarmZones() {
        Run run = new Run("10: OUTSIDE: the ZONE").after("add(6, 0, 0, 0)").after("add(6, 5, 0, 0)");
        refused(run, "alarm(#, 1)", -1, 6).due("count(1)", 0).due("tell(0, 7)", 0).due("tell(1, 7)", 0);
        run.due("alarm(0, 1)", 1).due("tell(1, 7)", 0).due("alarm(5, 1)", 1).due("tell(1, 7)", 1);
    }

    private static void alarmVotes() {
        Run run = new Run("10: OUTSIDE: votes (1 .. 60)").after("add(6, 0, 0, 0)");
        refused(run, "alarm(0, #)", 0, 61).due("count(1)", 0).due("tell(0, 7)", 0).due("alarm(0, -1)", OUTSIDE);
        run.due("alarm(0, 60)", 0).due("tell(0, 7)", 1).due("alarm(0, 1)", 1).due("count(1)", 3);
    }

    private static void alarmSoManyOrMore() {
        Run run = new Run("10: so many together, or more, of none");
        for (int zone = 0; zone < 6; zone++) {
            run.due("alarm(" + zone + ", 1)", 0);
        }
        run = new Run("10: so many together, or more, of 20").after(20, "add(0, 4, 0, 0)");
        run.due("alarm(4, 59)", 1).due("alarm(4, 60)", 1).due("alarm(3, 1)", 0).after("read(7, -4)");
        run.due("alarm(4, 56)", 1).due("alarm(4, 57)", 1).due("alarm(4, 58)", 0).due("alarm(4, 60)", 0);
        run = new Run("10: so many together, or more, of kinds 0, 1 and 7");
        run.after("add(0, 0, 0, 0)").after("add(1, 0, 0, 0)").after("add(7, 0, 0, 0)");
        run.due("alarm(0, 5)", 1).due("alarm(0, 6)", 1).due("alarm(0, 7)", 0);
    }

    private static void alarmAsksAll() {
        Run run = new Run("10: all are asked, in order").after(2, "add(0, 0, 0, 0)").after("add(6, 1, 0, 0)");
        run.after("add(6, 0, 0, 0)").after("add(6, 0, 1, 0)").after("add(6, 0, 0, 0)");
        run.due("alarm(0, 1)", 1).trace(20, 20, 26, 20, 26, 20, 26, 20).due("count(1)", 8);
        run.due("tell(2, 7)", 0).due("tell(3, 7)", 1).due("tell(4, 7)", 0).due("tell(5, 7)", 1);
    }

    private static void costsOfNoneAndOfTwenty() {
        Run run = new Run("11: The COSTS of all DETECTORS, of none and of 20").due("costs()", 0).due("count(1)", 0);
        run.after("add(7, 0, 0, 0)").due("costs()", 10).trace(47, 40).after(18, "add(2, 5, 0, 0)");
        run.after("add(6, 2, 0, 0)").due("costs()", 10 + 18 * 20 + 15).due("count(1)", 42).trace(42, 40, 46, 40);
        run.due("trace(39)", 47).due("trace(38)", 40);
    }

    private static void tracePlaces() {
        Run run = new Run("12: place i of THE TRACE, from 0, the latest one, on").after("add(6, 0, 1, 0)").due("over(0)", 0);
        run.due("trace(0)", 20).due("trace(1)", 26).due("trace(2)", UNKNOWN).due("trace(200)", UNKNOWN);
        run.due("trace(-1)", UNKNOWN).due("trace(-2)", UNKNOWN).due("trace(-200)", UNKNOWN);
        run.due("trace(" + LOWEST + ")", UNKNOWN).due("trace(" + HIGHEST + ")", UNKNOWN);
        run = new Run("12: a full TRACE").after("add(0, 0, 0, 0)").after("over(0)").after(199, "cost(0)");
        run.due("trace(0)", 40).due("trace(199)", 20).due("trace(200)", UNKNOWN).due("trace(-1)", UNKNOWN);
        run.due("trace(" + LOWEST + ")", UNKNOWN).due("trace(" + HIGHEST + ")", UNKNOWN).due("count(1)", 200);
    }

    private static void countWhat() {
        Run run = new Run("13: 0 .. 3, OUTSIDE").after("add(5, 0, 0, 1)").after("weigh(0, 0)").after("weigh(0, 0)");
        run.due("count(0)", 1).due("count(1)", 5).due("count(2)", 1).due("count(3)", 1);
        refused(run, "count(#)", -1, 4);
    }

    private static void countsEver() {
        Run run = new Run("13: ever: CLEAR takes nothing back").after("add(5, 0, 0, 1)");
        run.due("read(0, 0)", ARITHMETIC).due("read(0, 0)", FLAT).due("clear(0)", 1);
        run.due("count(1)", 9).due("count(2)", 1).due("count(3)", 1).after("sweep(0, 0)").after("sweep(0, 0)");
        run.due("count(1)", 16).due("count(2)", 2).due("count(3)", 2);
        run = new Run("13: a rule of VOTES does not come behind THE TRACE; OVER does");
        run.after("add(7, 0, 0, 0)").due("alarm(0, 2)", 1).due("trace(0)", 20).due("trace(1)", UNKNOWN).due("count(1)", 1);
    }

    /** The first values that are refused, below and above, and the farthest ones. */
    private static Run refused(Run run, String call, int below, int above) {
        for (int wrong : new int[] {below, above, LOWEST, HIGHEST}) {
            run.due(call.replace("#", String.valueOf(wrong)), OUTSIDE);
        }
        return run;
    }
}
