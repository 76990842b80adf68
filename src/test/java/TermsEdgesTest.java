/** The boundary cases that the document's Terms name, a test for each sentence; the sentence is the run's name. */
public final class TermsEdgesTest {
    private static final int UNKNOWN = -101, OUTSIDE = -102, ROOM = -104;
    private static final String FLAT = "IllegalStateException", ARITHMETIC = "ArithmeticException";

    public static void main(String[] args) {
        everyKindStartsAtNought();
        detectorsTwentyAtMost();
        noDetector();
        twentyDetectors();
        flatIfChargeIsNought();
        chargeCountsForRadiosAlone();
        chargeIsOneLess();
        thousandByBelow();
        byNoughtArithmetic();
        flatAheadOfArithmetic();
        weighLessDrift();
        levelIsCutTowardNought();
        driftFollowsLevel();
        heatReadsAgainIfAbove();
        twinReadsTheOpposite();
        overAtLimit();
        overAtTheFarthestLimits();
        heatIsOverFromThreeOn();
        floodStaysLatched();
        clearOfWhatIsNew();
        beamGainsCharge();
        clearLeavesTheRest();
        twinCostsByDrift();
        votesNeedOver();
        endsTheActThere();
        traceKeepsTwoHundred();
        traceTwiceRound();
        traceByGreatSweeps();
        codesInOrder();
        codesAheadOfThrows();
        fiveHundredAndTwelveCalls();
        Run.end();
    }

    private static void everyKindStartsAtNought() {
        for (int kind = 0; kind < 8; kind++) {
            Run run = new Run("LEVEL, COUNT, DRIFT are 0 at first, and none is LATCHED, kind " + kind);
            run.due("add(" + kind + ", 0, -10000, 0)", 0).state(0, kind, 0, -10000, 0, 0, 0, 0, 0);
            run.due("add(" + kind + ", 5, 10000, 100)", 1).state(1, kind, 5, 10000, 100, 0, 0, 0, 0);
        }
    }

    private static void detectorsTwentyAtMost() {
        Run run = new Run("DETECTORS (20 at most, numbered from 0 on)");
        for (int i = 0; i < 20; i++) {
            run.due("count(0)", i).due("tell(" + i + ", 2)", UNKNOWN);
            run.due("add(" + i % 8 + ", " + i % 6 + ", " + i + ", 1)", i).due("tell(" + i + ", 2)", i);
        }
        for (int kind = 0; kind < 8; kind++) {
            run.due("add(" + kind + ", 0, 0, 0)", ROOM);
        }
        run.due("count(0)", 20).due("tell(20, 2)", UNKNOWN).due("tell(19, 2)", 19).due("tell(0, 2)", 0);
    }

    private static void noDetector() {
        Run run = new Run("a DETECTOR that there is not, of none");
        for (int detector = -1; detector < 2; detector++) {
            run.due("read(" + detector + ", 1)", UNKNOWN).due("weigh(" + detector + ", 1)", UNKNOWN);
            run.due("over(" + detector + ")", UNKNOWN).due("clear(" + detector + ")", UNKNOWN);
            run.due("cost(" + detector + ")", UNKNOWN).due("tell(" + detector + ", 0)", UNKNOWN);
        }
        run.due("count(1)", 0);
    }

    private static void twentyDetectors() {
        Run run = new Run("a DETECTOR that there is not, of 20").after(20, "add(1, 2, 0, 0)");
        run.due("read(19, 8)", 2).due("weigh(19, 8)", 8).due("over(19)", 1).due("cost(19)", 11).due("clear(19)", 1);
        run.due("read(0, 8)", 2).due("weigh(0, 8)", 8).due("over(0)", 1).due("cost(0)", 11).due("clear(0)", 1);
        run.due("count(1)", 12).due("tell(19, 1)", 2).due("tell(0, 1)", 2);
        for (int detector : new int[] {-1, 20, Integer.MIN_VALUE, Integer.MAX_VALUE}) {
            run.due("read(" + detector + ", 8)", UNKNOWN).due("weigh(" + detector + ", 8)", UNKNOWN);
            run.due("over(" + detector + ")", UNKNOWN).due("clear(" + detector + ")", UNKNOWN);
            run.due("cost(" + detector + ")", UNKNOWN).due("tell(" + detector + ", 1)", UNKNOWN);
        }
        run.due("count(1)", 12);
    }

    private static void flatIfChargeIsNought() {
        for (int kind : new int[] {2, 4, 5}) {
            Run run = new Run("RADIO: FLAT, if CHARGE is 0, kind " + kind);
            run.after("add(" + kind + ", 0, 0, 0)").after("add(" + kind + ", 0, 0, 1)");
            run.due("weigh(0, 10)", FLAT).due("read(0, 10)", FLAT).due("weigh(0, 10)", FLAT);
            run.state(0, kind, 0, 0, 0, 0, 0, 0, 0).due("count(2)", 3);
            run.due("weigh(1, 10)", kind == 5 ? 100 : 10).due("tell(1, 3)", 0).due("count(2)", 3);
            run.due("weigh(1, 10)", FLAT).due("tell(1, 3)", 0).due("count(2)", 4).due("count(3)", 0);
        }
    }

    private static void chargeCountsForRadiosAlone() {
        for (int kind : new int[] {0, 1, 3, 6, 7}) {
            Run run = new Run("only RADIO, and what is upon it, is FLAT, kind " + kind);
            run.after("add(" + kind + ", 0, 0, 0)").after("add(" + kind + ", 0, 0, 100)");
            run.due("weigh(0, 10)", 10).due("weigh(1, 10)", 10).after("read(0, 10)").after("read(1, 10)");
            run.due("tell(0, 3)", 0).due("tell(1, 3)", 100).due("count(2)", 0);
        }
    }

    private static void chargeIsOneLess() {
        Run run = new Run("else CHARGE is 1 less, from 100 to 0").after("add(2, 0, 0, 100)");
        for (int left = 99; left >= 0; left--) {
            run.due("weigh(0, -7)", -7).due("tell(0, 3)", left);
        }
        run.due("weigh(0, -7)", FLAT).due("tell(0, 3)", 0).due("count(2)", 1);
    }

    private static void thousandByBelow() {
        Run run = new Run("BEAM: 1000 / BELOW, cut toward 0").after("add(5, 0, 0, 100)");
        int[] below = {1, 2, 3, 7, 499, 500, 501, 999, 1000, 1001, 10000};
        int[] given = {1000, 500, 333, 142, 2, 2, 1, 1, 1, 0, 0};
        for (int i = 0; i < below.length; i++) {
            run.due("weigh(0, " + below[i] + ")", given[i]).due("weigh(0, -" + below[i] + ")", -given[i]);
        }
        run.due("tell(0, 3)", 78).due("count(2)", 0).due("count(3)", 0);
    }

    private static void byNoughtArithmetic() {
        Run run = new Run("by 0 ARITHMETIC").after("add(5, 0, 0, 9)");
        run.due("weigh(0, -1)", -1000).due("weigh(0, 0)", ARITHMETIC).due("weigh(0, 1)", 1000);
        run.due("read(0, 0)", ARITHMETIC).due("count(3)", 2).due("count(2)", 0).due("tell(0, 3)", 5);
        for (int kind : new int[] {0, 1, 2, 3, 4, 6, 7}) {
            run.after("add(" + kind + ", 0, 0, 9)");
        }
        for (int detector = 1; detector < 8; detector++) {
            run.due("weigh(" + detector + ", 0)", 0).due("read(" + detector + ", 0)", 0);
        }
        run.due("count(3)", 2);
    }

    private static void flatAheadOfArithmetic() {
        Run run = new Run("a BEAM of CHARGE 0 is FLAT, by 0 too").after("add(5, 0, 0, 0)").after("add(5, 0, 0, 1)");
        run.due("weigh(0, 0)", FLAT).due("read(0, 0)", FLAT).due("count(2)", 2).due("count(3)", 0);
        run.due("weigh(1, 0)", ARITHMETIC).due("weigh(1, 0)", FLAT).due("count(2)", 3).due("count(3)", 1);
    }

    private static void weighLessDrift() {
        Run run = new Run("SMOKE: BELOW less DRIFT, beyond the bounds of v").after("add(3, 0, 0, 0)");
        run.due("weigh(0, 10000)", 10000).due("weigh(0, -10000)", -10000).after("read(0, 400)").due("tell(0, 6)", 1);
        run.due("weigh(0, 10000)", 9999).due("weigh(0, -10000)", -10001).due("weigh(0, 1)", 0).due("weigh(0, 0)", -1);
        run = new Run("SMOKE: BELOW less a DRIFT below 0").after("add(3, 0, 0, 0)").after("read(0, -400)");
        run.due("tell(0, 6)", -1).due("weigh(0, 10000)", 10001).due("weigh(0, -10000)", -9999).due("weigh(0, 0)", 1);
    }

    private static void levelIsCutTowardNought() {
        for (int v = -9; v <= 9; v++) {
            Run run = new Run("LEVEL is (3 * LEVEL + that) / 4, cut toward 0, from 0").after("add(0, 0, 0, 0)");
            run.due("read(0, " + v + ")", v < 0 ? -(-v / 4) : v / 4);
        }
        Run run = new Run("LEVEL is cut toward 0, from 1").after("add(0, 0, 0, 0)").after("read(0, 4)");
        run.due("read(0, 1)", 1).due("read(0, 0)", 0).after("read(0, 4)").due("read(0, -6)", 0);
        run.after("read(0, 4)").due("read(0, -7)", -1).due("read(0, -1)", -1).due("read(0, 0)", 0);
        run = new Run("LEVEL is cut toward 0, at the farthest").after("add(0, 0, 0, 0)");
        run.due("read(0, 10000)", 2500).after(60, "read(0, 10000)").due("tell(0, 4)", 9997).due("read(0, 10000)", 9997);
        run.after(60, "read(0, -10000)").due("tell(0, 4)", -9997).due("read(0, -10000)", -9997).due("tell(0, 5)", 123);
    }

    private static void driftFollowsLevel() {
        Run run = new Run("DRIFT is 1 more, if LEVEL is above it, 1 less, if LEVEL is below it").after("add(3, 0, 0, 0)");
        run.due("read(0, 3)", 0).due("tell(0, 6)", 0).due("read(0, 4)", 1).due("tell(0, 6)", 1);
        run.due("read(0, 2)", 1).due("tell(0, 6)", 1).due("read(0, 0)", 0).due("tell(0, 6)", 0);
        run.due("read(0, -4)", -1).due("tell(0, 6)", -1).due("read(0, -2)", -1).due("tell(0, 6)", -1);
        run.due("read(0, 0)", 0).due("tell(0, 6)", 0).due("read(0, 8)", 2).due("tell(0, 6)", 1);
        run.due("read(0, 3)", 2).due("tell(0, 6)", 2).due("read(0, 2)", 1).due("tell(0, 6)", 1);
        run = new Run("DRIFT has no bound told").after("add(3, 0, 0, 0)").after(400, "read(0, 10000)");
        run.due("tell(0, 6)", 400);
    }

    private static void heatReadsAgainIfAbove() {
        Run run = new Run("HEAT: BELOW; then, if v is above LEVEL, BELOW again").after("add(4, 0, 0, 100)");
        run.due("read(0, -1)", 0).due("tell(0, 5)", 1).due("read(0, 0)", 0).due("tell(0, 5)", 2);
        run.due("read(0, 1)", 0).due("tell(0, 5)", 4).due("read(0, 10)", 4).due("tell(0, 5)", 6);
        run.due("read(0, 4)", 4).due("tell(0, 5)", 7).due("read(0, 5)", 4).due("tell(0, 5)", 9);
        run.due("read(0, 3)", 3).due("tell(0, 5)", 10).due("tell(0, 3)", 90);
        run.due("read(0, -10000)", -2497).due("tell(0, 5)", 11).due("read(0, 10000)", 2970).due("tell(0, 5)", 13);
    }

    private static void twinReadsTheOpposite() {
        Run run = new Run("TWIN: BELOW; then BELOW of -v").after("add(7, 0, 0, 0)").after("add(7, 0, 0, 0)");
        run.due("read(0, 10000)", -625).state(0, 7, 0, 0, 0, -625, 2, 0, 0);
        run.due("read(1, -10000)", 625).state(1, 7, 0, 0, 0, 625, 2, 0, 0);
        run.after("add(7, 0, 0, 0)").due("read(2, 0)", 0).state(2, 7, 0, 0, 0, 0, 2, 0, 0);
    }

    private static void overAtLimit() {
        for (int kind : new int[] {0, 1, 2, 3, 6, 7}) {
            Run run = new Run("OVER: LEVEL is LIMIT or more, kind " + kind);
            for (int limit = -1; limit <= 1; limit++) {
                run.after("add(" + kind + ", 0, " + limit + ", 9)");
            }
            run.due("over(0)", 1).due("over(1)", 1).due("over(2)", 0);
        }
        Run run = new Run("OVER: LEVEL is LIMIT or more, LEVEL 5");
        run.after("add(0, 0, 4, 0)").after("add(0, 0, 5, 0)").after("add(0, 0, 6, 0)").after("sweep(0, 20)");
        run.due("over(0)", 1).due("over(1)", 1).due("over(2)", 0);
        run = new Run("OVER: LEVEL is LIMIT or more, LEVEL -5");
        run.after("add(0, 0, -6, 0)").after("add(0, 0, -5, 0)").after("add(0, 0, -4, 0)").after("sweep(0, -20)");
        run.due("over(0)", 1).due("over(1)", 1).due("over(2)", 0);
    }

    private static void overAtTheFarthestLimits() {
        Run run = new Run("OVER at LIMIT 10000 and -10000");
        run.after("add(0, 0, 10000, 0)").after("add(0, 0, -10000, 0)").after("add(0, 0, 9997, 0)");
        run.due("over(0)", 0).due("over(1)", 1).after(60, "sweep(0, 10000)");
        run.due("tell(2, 4)", 9997).due("over(0)", 0).due("over(1)", 1).due("over(2)", 1);
        run.after(60, "sweep(0, -10000)").due("over(0)", 0).due("over(1)", 1).due("over(2)", 0);
    }

    private static void heatIsOverFromThreeOn() {
        Run run = new Run("HEAT: BELOW, and COUNT is 3 or more").after("add(4, 0, 0, 9)").after("add(4, 0, 1, 9)");
        for (int count = 0; count < 5; count++) {
            run.due("tell(0, 5)", count).due("over(0)", count < 3 ? 0 : 1).trace(24, 20);
            run.due("over(1)", 0).trace(24, 20).after("sweep(0, 0)");
        }
        run.after("clear(0)").due("over(0)", 0);
    }

    private static void floodStaysLatched() {
        Run run = new Run("FLOOD: LATCHED, or else BELOW; it is LATCHED then, if so").after("add(6, 0, 5, 0)");
        run.due("read(0, 16)", 4).due("over(0)", 0).trace(26, 20).due("tell(0, 7)", 0);
        run.due("read(0, 8)", 5).due("tell(0, 7)", 0).due("over(0)", 1).trace(26, 20).due("tell(0, 7)", 1);
        run.due("read(0, -10000)", -2496).due("over(0)", 1).trace(0, 26).due("tell(0, 7)", 1);
        run.due("clear(0)", 1).due("tell(0, 7)", 0).due("over(0)", 0).due("tell(0, 7)", 0);
        run = new Run("FLOOD that is not LATCHED again until OVER").after("add(6, 0, 0, 0)").due("over(0)", 1);
        run.due("clear(0)", 1).due("tell(0, 7)", 0).due("over(0)", 1).trace(26, 20).due("tell(0, 7)", 1);
        run = new Run("only a FLOOD is LATCHED");
        for (int kind : new int[] {0, 1, 2, 3, 4, 5, 7}) {
            run.after("add(" + kind + ", 0, -9, 9)");
        }
        run.after(3, "sweep(0, 8)").after("alarm(0, 1)");
        for (int detector = 0; detector < 7; detector++) {
            run.due("over(" + detector + ")", 1).due("tell(" + detector + ", 7)", 0);
        }
    }

    private static void clearOfWhatIsNew() {
        for (int kind = 0; kind < 8; kind++) {
            Run run = new Run("CLEAR of a new DETECTOR, kind " + kind).after("add(" + kind + ", 3, -4, 50)");
            run.due("clear(0)", 1).state(0, kind, 3, -4, kind == 5 ? 51 : 50, 0, 0, 0, 0);
            boolean own = kind == 5 || kind == 6 || kind == 7;
            run.due("trace(0)", 30).due("trace(1)", own ? 30 + kind : UNKNOWN).due("count(1)", own ? 2 : 1);
        }
    }

    private static void beamGainsCharge() {
        Run run = new Run("BEAM: CHARGE is 1 more, from 0 and from 100").after("add(5, 0, 0, 0)").after("add(5, 0, 0, 100)");
        run.due("weigh(0, 1)", FLAT).due("clear(0)", 1).due("tell(0, 3)", 1).due("weigh(0, 1)", 1000);
        run.due("weigh(0, 1)", FLAT).due("tell(0, 3)", 0).after(3, "clear(0)").due("tell(0, 3)", 3);
        run.due("clear(1)", 1).due("tell(1, 3)", 101).due("clear(1)", 1).due("tell(1, 3)", 102);
        run.after(102, "weigh(1, 1)").due("tell(1, 3)", 0).due("count(2)", 2).due("weigh(1, 1)", FLAT);
    }

    private static void clearLeavesTheRest() {
        Run run = new Run("CLEAR: a FLAT one stays FLAT").after("add(2, 0, 0, 1)").after("add(4, 0, 0, 1)");
        run.due("read(0, 4)", 1).due("read(1, 0)", 0).due("clear(0)", 1).due("clear(1)", 1);
        run.state(0, 2, 0, 0, 0, 0, 0, 0, 0).state(1, 4, 0, 0, 0, 0, 0, 0, 0);
        run.due("read(0, 4)", FLAT).due("read(1, 0)", FLAT);
        run = new Run("TWIN: BELOW; DRIFT is 0; SMOKE's DRIFT stays").after("add(3, 0, 0, 0)").after("add(7, 0, 0, 0)");
        run.after(2, "read(0, 400)").after("read(1, -400)").after("read(1, 0)");
        run.due("tell(0, 6)", 2).due("tell(1, 6)", 2).due("clear(0)", 1).due("clear(1)", 1);
        run.state(0, 3, 0, 0, 0, 0, 0, 2, 0).state(1, 7, 0, 0, 0, 0, 0, 0, 0);
    }

    private static void twinCostsByDrift() {
        Run run = new Run("TWIN: BELOW * (1 + the size of DRIFT)").after("add(7, 0, 0, 0)").after("add(7, 0, 0, 0)");
        run.due("cost(0)", 10).after("read(0, -400)").after("read(1, 400)").due("cost(0)", 12).due("cost(1)", 12);
        run.after("sweep(0, 0)").due("tell(0, 6)", 2).due("tell(1, 6)", -2).due("cost(0)", 42).due("cost(1)", 42);
        run.after("clear(1)").due("cost(1)", 10);
    }

    private static void votesNeedOver() {
        int[] votes = {3, 1, 1, 1, 1, 1, 1, 2};
        for (int kind = 0; kind < 8; kind++) {
            Run run = new Run("VOTES, if OVER, else 0, kind " + kind);
            run.after("add(" + kind + ", 0, 1, 9)").due("alarm(0, 1)", 0).after(3, "read(0, -4)").after("clear(0)");
            run.after("add(" + kind + ", 1, -10, 9)").after(3, "read(1, 4)");
            run.due("alarm(0, 1)", 0).due("alarm(1, " + votes[kind] + ")", 1).due("alarm(1, " + (votes[kind] + 1) + ")", 0);
        }
        for (int kind = 0; kind < 8; kind++) {
            Run run = new Run("VOTES of one that is not OVER are 0, beside one that is, kind " + kind);
            run.after("add(" + kind + ", 0, 1, 9)").after("add(0, 0, 0, 0)").due("alarm(0, 3)", 1).due("alarm(0, 4)", 0);
        }
        Run run = new Run("VOTES of a HEAT of COUNT 2").after("add(4, 0, 0, 9)").after(2, "read(0, 0)");
        run.due("alarm(0, 1)", 0).after("read(0, 0)").due("alarm(0, 1)", 1);
        run.trace(24, 20, 14, 10, 2, 0, 24, 20);
    }

    private static void endsTheActThere() {
        Run run = new Run("What is FLAT ends the ACT there: what was done by then stays done").after("add(4, 0, 0, 1)");
        run.due("read(0, 80)", FLAT).trace(14, 10, 2, 0, 10, 2).state(0, 4, 0, 0, 0, 20, 1, 0, 0);
        run.due("read(0, 80)", FLAT).trace(2, 14, 10, 2).state(0, 4, 0, 0, 0, 20, 1, 0, 0).due("count(1)", 9);
        run = new Run("What is ARITHMETIC ends the ACT there: what was done by then stays done").after("add(5, 0, 0, 3)");
        run.due("read(0, 10)", 25).due("read(0, 0)", ARITHMETIC).trace(10, 5, 2, 0).state(0, 5, 0, 0, 1, 25, 1, 0, 0);
        run.due("weigh(0, 0)", ARITHMETIC).trace(5, 2, 0).state(0, 5, 0, 0, 0, 25, 1, 0, 0).due("count(1)", 11);
    }

    private static void traceKeepsTwoHundred() {
        Run run = new Run("THE TRACE: the latest 200 are kept").after("add(0, 0, 0, 0)");
        run.due("trace(0)", UNKNOWN).after("over(0)").due("trace(0)", 20).due("trace(1)", UNKNOWN).after("clear(0)");
        run.after(197, "cost(0)").due("count(1)", 199).due("trace(198)", 20).due("trace(199)", UNKNOWN);
        run.after("cost(0)").due("count(1)", 200).due("trace(199)", 20).due("trace(198)", 30).due("trace(200)", UNKNOWN);
        run.after("weigh(0, 1)").due("count(1)", 201).due("trace(199)", 30).due("trace(0)", 0).due("trace(1)", 40);
        run.due("trace(200)", UNKNOWN).after("over(0)").due("count(1)", 202).due("trace(199)", 40);
        run.due("trace(198)", 40).trace(40, 0, 20).due("trace(200)", UNKNOWN).due("trace(201)", UNKNOWN);
    }

    private static void traceTwiceRound() {
        Run run = new Run("THE TRACE, twice round").after("add(0, 0, 0, 0)").after(200, "read(0, 1)");
        run.due("count(1)", 400).due("trace(0)", 0).due("trace(1)", 10).due("trace(199)", 10).due("trace(200)", UNKNOWN);
        run.after("over(0)").due("count(1)", 401).trace(10, 0, 20).due("trace(199)", 0).due("trace(198)", 10);
        run.due("trace(200)", UNKNOWN);
    }

    private static void traceByGreatSweeps() {
        Run run = new Run("THE TRACE, beyond 200 within a call").after(20, "add(7, 4, 0, 0)").after(2, "sweep(4, 9)");
        int[] row = {17, 13, 10, 3, 0, 13, 10, 3, 0};
        for (int i = 0; i < 200; i++) {
            run.due("trace(" + i + ")", row[(359 - i) % 9]);
        }
        run.due("trace(200)", UNKNOWN).due("count(1)", 360);
    }

    private static void codesInOrder() {
        Run run = new Run("the first of these that fits: UNKNOWN ahead of OUTSIDE").after("add(0, 0, 0, 0)");
        for (String v : new String[] {"-10001", "10001"}) {
            run.due("read(1, " + v + ")", UNKNOWN).due("read(-1, " + v + ")", UNKNOWN).due("read(0, " + v + ")", OUTSIDE);
            run.due("weigh(1, " + v + ")", UNKNOWN).due("weigh(-1, " + v + ")", UNKNOWN).due("weigh(0, " + v + ")", OUTSIDE);
        }
        run.due("tell(1, 8)", UNKNOWN).due("tell(-1, -1)", UNKNOWN).due("tell(0, 8)", OUTSIDE);
        run = new Run("the first of these that fits: OUTSIDE ahead of ROOM").after(20, "add(0, 0, 0, 0)");
        run.due("add(-1, 0, 0, 0)", OUTSIDE).due("add(8, 0, 0, 0)", OUTSIDE).due("add(0, -1, 0, 0)", OUTSIDE);
        run.due("add(0, 6, 0, 0)", OUTSIDE).due("add(0, 0, -10001, 0)", OUTSIDE).due("add(0, 0, 10001, 0)", OUTSIDE);
        run.due("add(0, 0, 0, -1)", OUTSIDE).due("add(0, 0, 0, 101)", OUTSIDE);
        run.due("add(7, 5, 10000, 100)", ROOM).due("add(0, 0, -10000, 0)", ROOM);
    }

    private static void codesAheadOfThrows() {
        Run run = new Run("the codes come ahead of all that a call throws").after("add(2, 0, 0, 0)").after("add(5, 0, 0, 0)");
        for (int detector = 0; detector < 2; detector++) {
            run.due("read(" + detector + ", 10001)", OUTSIDE).due("read(" + detector + ", -10001)", OUTSIDE);
            run.due("weigh(" + detector + ", 10001)", OUTSIDE).due("weigh(" + detector + ", -10001)", OUTSIDE);
        }
        run.due("sweep(0, 10001)", OUTSIDE).due("count(1)", 0).due("count(2)", 0);
        run.due("read(0, 10000)", FLAT).due("weigh(1, -10000)", FLAT).due("count(2)", 2);
    }

    private static void fiveHundredAndTwelveCalls() {
        Run run = new Run("at most 512 calls: RULES").after(20, "add(7, 5, 0, 0)").after(491, "sweep(5, 10000)");
        run.due("count(1)", 9 * 20 * 491);
        run = new Run("at most 512 calls: COUNT").after(20, "add(7, 5, 0, 0)").after(491, "sweep(5, -10000)");
        run.due("tell(19, 5)", 2 * 491);
        run = new Run("at most 512 calls: FLAT").after(20, "add(4, 0, 0, 0)").after(491, "sweep(0, 1)");
        run.due("count(2)", 20 * 491);
        run = new Run("at most 512 calls: ARITHMETIC").after(20, "add(5, 3, 0, 100)").after(491, "sweep(3, 0)");
        run.due("count(3)", 20 * 100);
    }
}
