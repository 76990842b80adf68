/** The sentences of the document's Terms in their order, by ordinary inputs; the sentence is the run's name. */
public final class TermsTest {
    private static final int UNKNOWN = -101, OUTSIDE = -102, ROOM = -104;
    private static final String FLAT = "IllegalStateException", ARITHMETIC = "ArithmeticException";
    private static final int KINDS = 8;

    /** For each call, the rules that it begins, kind by kind. */
    private static final String[] CALLS = {"weigh(0, -4)", "read(0, -4)", "over(0)", "clear(0)", "cost(0)", "alarm(0, 1)"};
    private static final int[][] WEIGH = {{0}, {0}, {2, 0}, {3, 0}, {2, 0}, {5, 2, 0}, {0}, {3, 0}};
    private static final int[][] READ = {{10, 0}, {10, 0}, {10, 2, 0}, {13, 10, 3, 0}, {14, 10, 2, 0}, {10, 5, 2, 0},
        {10, 0}, {17, 13, 10, 3, 0, 13, 10, 3, 0}};
    private static final int[][] OVER = {{20}, {20}, {20}, {20}, {24, 20}, {20}, {26, 20}, {20}};
    private static final int[][] CLEAR = {{30}, {30}, {30}, {30}, {30}, {35, 30}, {36, 30}, {37, 30}};
    private static final int[][] COST = {{40}, {40}, {42, 40}, {40}, {42, 40}, {42, 40}, {46, 40}, {47, 40}};
    /** No rule of VOTES comes behind the trace, so an alarm leaves the rows of OVER. */
    private static final int[][][] ROWS = {WEIGH, READ, OVER, CLEAR, COST, OVER};

    public static void main(String[] args) {
        kindsUponOneAnother();
        whatADetectorHas();
        belowIsUnderTheTeller();
        belowIsForTheSameDetector();
        aNamedActIsOfTheOwnKind();
        weighs();
        reads();
        overs();
        clears();
        votes();
        costsOfKinds();
        eachRuleAsItBegins();
        whatEndsAnAct();
        codes();
        Run.end();
    }

    private static void kindsUponOneAnother() {
        for (int call = 0; call < CALLS.length; call++) {
            for (int kind = 0; kind < KINDS; kind++) {
                Run run = new Run("An ACT is done by the RULE that its KIND tells, or by that of the KIND below, kind " + kind);
                int[] row = ROWS[call][kind];
                run.after("add(" + kind + ", 0, 1, 9)").after(CALLS[call]).trace(row);
                run.due("trace(" + row.length + ")", UNKNOWN).due("count(1)", row.length);
            }
        }
    }

    private static void whatADetectorHas() {
        Run run = new Run("DETECTORS have a KIND, a ZONE 0 .. 5, a LIMIT, a CHARGE; LEVEL, COUNT, DRIFT are 0 at first");
        run.due("add(5, 4, 300, 20)", 0).due("add(3, 1, -200, 10)", 1);
        run.state(0, 5, 4, 300, 20, 0, 0, 0, 0).state(1, 3, 1, -200, 10, 0, 0, 0, 0);
    }

    private static void belowIsUnderTheTeller() {
        Run run = new Run("BELOW is the ACT as the KIND under that which tells the RULE has it");
        run.after("add(4, 0, 0, 9)").after("add(5, 0, 0, 9)").after("add(7, 0, 0, 9)");
        run.due("cost(0)", 20).due("cost(1)", 20).due("weigh(0, 7)", 7).due("tell(0, 3)", 8);
        run.due("weigh(1, 7)", 142).due("tell(1, 3)", 8);
        run.due("read(2, 0)", 0).due("tell(2, 5)", 2).due("weigh(2, 7)", 7).trace(3, 0);
    }

    private static void belowIsForTheSameDetector() {
        for (int kind = 0; kind < KINDS; kind++) {
            Run run = new Run("for the same DETECTOR, kind " + kind);
            for (int detector = 0; detector < 3; detector++) {
                run.due("add(" + kind + ", 0, " + (detector - 1) + ", 9)", detector);
            }
            run.after("read(1, 400)").after("over(1)").after("cost(1)").after("weigh(1, 5)").after("alarm(1, 1)");
            run.state(0, kind, 0, -1, 9, 0, 0, 0, 0).state(2, kind, 0, 1, 9, 0, 0, 0, 0).after("clear(1)");
            run.state(0, kind, 0, -1, 9, 0, 0, 0, 0).state(2, kind, 0, 1, 9, 0, 0, 0, 0);
        }
    }

    private static void aNamedActIsOfTheOwnKind() {
        Run run = new Run("where a RULE names an ACT, it is the ACT of the DETECTOR's own KIND: WEIGH in READ");
        run.after("add(5, 0, 0, 9)").due("read(0, 5)", 50).due("tell(0, 3)", 8);
        run.after("add(7, 0, 0, 0)").after("read(1, -400)").after("read(1, 0)").due("tell(1, 6)", 2);
        run.due("read(1, 2)", 5).trace(17, 13, 10, 3, 0, 13, 10, 3, 0);
        run = new Run("where a RULE names an ACT, it is the ACT of the DETECTOR's own KIND: OVER in VOTES");
        run.after("add(4, 0, 0, 9)").after("add(6, 1, 0, 0)").due("alarm(0, 1)", 0).due("alarm(1, 1)", 1);
        run.due("tell(1, 7)", 1).after("read(1, -80)").due("alarm(1, 1)", 1).trace(10, 0, 26);
    }

    private static void weighs() {
        Run run = new Run("ACT 0 WEIGH");
        for (int kind = 0; kind < KINDS; kind++) {
            run.after("add(" + kind + ", 0, 0, 5)").due("weigh(" + kind + ", 30)", kind == 5 ? 33 : 30);
        }
        run.after("read(3, 40)").due("weigh(3, 30)", 29).due("weigh(3, -30)", -31);
    }

    private static void reads() {
        int[] levels = {20, 20, 20, 20, 35, 3, 20, -5};
        int[] counts = {1, 1, 1, 1, 2, 1, 1, 2};
        int[] charges = {5, 5, 4, 5, 3, 4, 5, 5};
        int[] drifts = {0, 0, 0, 1, 0, 0, 0, 0};
        for (int kind = 0; kind < KINDS; kind++) {
            Run run = new Run("ACT 1 READ, kind " + kind).after("add(" + kind + ", 0, 0, 5)");
            run.due("read(0, 80)", levels[kind]);
            run.state(0, kind, 0, 0, charges[kind], levels[kind], counts[kind], drifts[kind], 0);
        }
    }

    private static void overs() {
        for (int kind = 0; kind < KINDS; kind++) {
            Run run = new Run("ACT 2 OVER, kind " + kind).after("add(" + kind + ", 0, -50, 9)").after("add(" + kind + ", 0, 50, 9)");
            run.due("over(0)", kind == 4 ? 0 : 1).due("over(1)", 0).after(3, "sweep(0, 40)");
            run.due("over(0)", 1).due("over(1)", 0).due("tell(0, 7)", kind == 6 ? 1 : 0).due("tell(1, 7)", 0);
        }
    }

    private static void clears() {
        for (int kind = 0; kind < KINDS; kind++) {
            Run run = new Run("ACT 3 CLEAR, kind " + kind).after("add(" + kind + ", 0, -500, 9)");
            run.after(2, "read(0, -9)").due("over(0)", kind == 4 ? 0 : 1).due("tell(0, 5)", kind == 7 ? 4 : 2);
            int left = kind == 2 || kind == 4 || kind == 5 ? 7 : 9;
            run.due("tell(0, 3)", left).due("clear(0)", 1);
            run.state(0, kind, 0, -500, kind == 5 ? left + 1 : left, 0, 0, kind == 3 ? -2 : 0, 0);
        }
    }

    private static void votes() {
        int[] votes = {3, 1, 1, 1, 1, 1, 1, 2};
        for (int kind = 0; kind < KINDS; kind++) {
            Run run = new Run("ACT 5 VOTES, kind " + kind).after("add(" + kind + ", 2, -9, 9)").after(3, "read(0, 1)");
            run.due("alarm(2, " + votes[kind] + ")", 1).due("alarm(2, " + (votes[kind] + 1) + ")", 0);
        }
    }

    private static void costsOfKinds() {
        int[] costs = {11, 11, 22, 11, 22, 22, 16, 12};
        for (int kind = 0; kind < KINDS; kind++) {
            Run run = new Run("ACT 4 COST, kind " + kind).after("add(" + kind + ", 0, 0, 9)").after("read(0, -9)");
            run.due("cost(0)", costs[kind]).due("costs()", costs[kind]);
        }
        Run run = new Run("TWIN: BELOW * (1 + the size of DRIFT)").after("add(7, 0, 0, 9)").after("read(0, 400)");
        run.due("cost(0)", 12).after("read(0, 0)").due("tell(0, 6)", -2).due("cost(0)", 42);
    }

    private static void eachRuleAsItBegins() {
        Run run = new Run("Each RULE, as it begins, comes behind THE TRACE: 10 * its ACT + the KIND that tells it");
        run.after("add(4, 0, 0, 9)").after("add(6, 1, 5, 0)").due("count(1)", 0);
        run.after("read(0, 8)").after("over(1)").after("cost(0)").after("clear(1)").after("weigh(0, 1)");
        run.trace(14, 10, 2, 0, 10, 2, 0, 26, 20, 42, 40, 36, 30, 2, 0).due("count(1)", 15).due("trace(15)", UNKNOWN);
    }

    private static void whatEndsAnAct() {
        Run run = new Run("What is FLAT or ARITHMETIC ends the ACT there: what was done by then stays done");
        run.after("add(4, 0, 0, 2)").after("add(5, 0, 0, 1)").due("read(0, 40)", 17).due("read(0, 40)", FLAT);
        run.trace(14, 10, 2).state(0, 4, 0, 0, 0, 17, 2, 0, 0);
        run.due("read(1, 0)", ARITHMETIC).trace(10, 5, 2, 0).state(1, 5, 0, 0, 0, 0, 0, 0, 0);
    }

    private static void codes() {
        Run.same("UNKNOWN", String.valueOf(AlarmKinds.UNKNOWN), String.valueOf(UNKNOWN));
        Run.same("OUTSIDE", String.valueOf(AlarmKinds.OUTSIDE), String.valueOf(OUTSIDE));
        Run.same("ROOM", String.valueOf(AlarmKinds.ROOM), String.valueOf(ROOM));
        Run run = new Run("Codes: a DETECTOR, a place in THE TRACE that there is not").after("add(2, 0, 0, 0)");
        run.due("over(1)", UNKNOWN).due("trace(0)", UNKNOWN).due("read(0, 20000)", OUTSIDE).due("read(1, 20000)", UNKNOWN);
        run.after(19, "add(2, 0, 0, 0)").due("add(2, 0, 0, 0)", ROOM).due("add(9, 0, 0, 0)", OUTSIDE);
        run.due("count(0)", 20).due("count(1)", 0).due("count(2)", 0);
    }
}
