/** Each rule of each kind, with what it changes and the row that it leaves in the trace. */
public final class RulesTest {
    private static final String FLAT = "IllegalStateException", ARITHMETIC = "ArithmeticException";

    public static void main(String[] args) {
        plainAndWired();
        cutTowardZero();
        radio();
        smoke();
        heat();
        heatThatEndsHalfway();
        beam();
        flood();
        twin();
        votesOfEachKind();
        Run.end();
    }

    private static void plainAndWired() {
        for (int kind = 0; kind < 2; kind++) {
            Run run = new Run("kind " + kind).after("add(" + kind + ", 0, 3, 0)");
            run.due("weigh(0, -5)", -5).trace(0).due("read(0, 12)", 3).trace(0, 10, 0);
            run.due("over(0)", 1).trace(0, 20).due("cost(0)", 11).trace(20, 40);
            run.due("clear(0)", 1).trace(40, 30).state(0, kind, 0, 3, 0, 0, 0, 0, 0).due("count(1)", 6);
        }
    }

    private static void cutTowardZero() {
        Run run = new Run("cut toward 0").after("add(0, 0, 0, 0)");
        run.due("read(0, 3)", 0).due("read(0, -3)", 0).due("read(0, -7)", -1).due("read(0, -4)", -1);
        run.due("read(0, 0)", 0).due("read(0, 7)", 1);
    }

    private static void radio() {
        Run run = new Run("RADIO").after("add(2, 0, 0, 2)");
        run.due("weigh(0, 9)", 9).trace(2, 0).due("tell(0, 3)", 1);
        run.due("read(0, 9)", 2).trace(10, 2, 0).due("tell(0, 3)", 0);
        run.due("weigh(0, 9)", FLAT).trace(10, 2, 0, 2).due("read(0, 9)", FLAT).trace(2, 10, 2);
        run.state(0, 2, 0, 0, 0, 2, 1, 0, 0).due("cost(0)", 22).trace(2, 42, 40);
        run.due("clear(0)", 1).trace(40, 30).due("tell(0, 3)", 0).due("over(0)", 1).trace(30, 20);
    }

    private static void smoke() {
        Run run = new Run("SMOKE").after("add(3, 0, 5, 0)");
        run.due("read(0, 0)", 0).trace(13, 10, 3, 0).due("tell(0, 6)", 0);
        run.due("read(0, 4)", 1).due("tell(0, 6)", 1).due("weigh(0, 4)", 3).trace(3, 0);
        run.due("read(0, 2)", 1).due("tell(0, 6)", 1).due("read(0, -4)", 0).due("tell(0, 6)", 0);
        run.due("read(0, -8)", -2).due("tell(0, 6)", -1).due("weigh(0, 4)", 5);
        run.due("cost(0)", 15).trace(0, 40).due("over(0)", 0).trace(40, 20);
        run.due("clear(0)", 1).trace(20, 30).state(0, 3, 0, 5, 0, 0, 0, -1, 0);
    }

    private static void heat() {
        Run run = new Run("HEAT").after("add(4, 0, 1, 9)");
        run.due("read(0, 0)", 0).trace(14, 10, 2, 0).due("count(1)", 4);
        run.due("read(0, 8)", 3).trace(14, 10, 2, 0, 10, 2, 0).state(0, 4, 0, 1, 6, 3, 3, 0, 0);
        run.due("over(0)", 1).trace(0, 24, 20).due("read(0, 3)", 3).trace(20, 14, 10, 2, 0);
        run.due("cost(0)", 28).trace(0, 42, 40).due("clear(0)", 1).trace(40, 30);
        run.due("read(0, 8)", 3).due("tell(0, 5)", 2).due("over(0)", 0).trace(24, 20);
        run.due("read(0, -80)", -17).due("tell(0, 5)", 3).due("over(0)", 0).trace(24, 20);
        run.due("weigh(0, 7)", 7).trace(20, 2, 0).due("tell(0, 3)", 1);
    }

    private static void heatThatEndsHalfway() {
        Run run = new Run("HEAT, flat halfway").after("add(4, 0, 1, 1)");
        run.due("read(0, 80)", FLAT).trace(14, 10, 2, 0, 10, 2).state(0, 4, 0, 1, 0, 20, 1, 0, 0);
        run.due("read(0, 80)", FLAT).trace(2, 14, 10, 2).due("sweep(0, 1)", 1).due("count(2)", 3);
    }

    private static void beam() {
        Run run = new Run("BEAM").after("add(5, 0, 0, 3)");
        run.due("weigh(0, -7)", -142).trace(5, 2, 0).due("read(0, 10)", 25).trace(10, 5, 2, 0);
        run.due("read(0, 0)", ARITHMETIC).trace(0, 10, 5, 2, 0).state(0, 5, 0, 0, 0, 25, 1, 0, 0);
        run.due("weigh(0, 0)", FLAT).trace(0, 5, 2).due("cost(0)", 22).trace(2, 42, 40);
        run.due("clear(0)", 1).trace(40, 35, 30).state(0, 5, 0, 0, 1, 0, 0, 0, 0);
        run.due("weigh(0, 1)", 1000).due("over(0)", 1).trace(0, 20);

        run = new Run("BEAM, past the most charge").after("add(5, 0, 0, 100)").after("clear(0)");
        run.due("tell(0, 3)", 101);
    }

    private static void flood() {
        Run run = new Run("FLOOD").after("add(6, 0, 1, 0)");
        run.due("over(0)", 0).trace(26, 20).due("tell(0, 7)", 0).due("read(0, 4)", 1).trace(20, 10, 0);
        run.due("tell(0, 7)", 0).due("over(0)", 1).trace(26, 20).due("tell(0, 7)", 1);
        run.due("read(0, -99)", -24).due("over(0)", 1).trace(0, 26).due("cost(0)", 17).trace(26, 46, 40);
        run.due("clear(0)", 1).trace(40, 36, 30).state(0, 6, 0, 1, 0, 0, 0, 0, 0);
        run.due("over(0)", 0).trace(30, 26, 20).due("weigh(0, 3)", 3).trace(20, 0);
    }

    private static void twin() {
        Run run = new Run("TWIN").after("add(7, 0, 0, 0)");
        run.due("read(0, -40)", 2).trace(17, 13, 10, 3, 0, 13, 10, 3, 0);
        run.state(0, 7, 0, 0, 0, 2, 2, 0, 0);
        run.due("read(0, 8)", 0).state(0, 7, 0, 0, 0, 0, 4, 0, 0);
        run.due("read(0, -400)", 25).due("tell(0, 6)", 0).due("read(0, 0)", 13).due("tell(0, 6)", 2);
        run.due("cost(0)", 54).trace(0, 47, 40).due("weigh(0, 5)", 3).trace(40, 3, 0);
        run.due("over(0)", 1).trace(0, 20).due("clear(0)", 1).trace(20, 37, 30);
        run.state(0, 7, 0, 0, 0, 0, 0, 0, 0);

        run = new Run("TWIN, drift below 0").after("add(7, 0, 0, 0)").after("read(0, 99)").after("read(0, 0)");
        run.due("tell(0, 6)", -2).due("cost(0)", 42);
    }

    private static void votesOfEachKind() {
        int[] votes = {3, 1, 1, 1, 1, 1, 1, 2};
        for (int kind = 0; kind < votes.length; kind++) {
            Run run = new Run("VOTES of " + kind).after("add(" + kind + ", 0, -9, 9)");
            run.after("read(0, 4)").after("read(0, 4)").after("read(0, 4)");
            run.due("alarm(0, " + votes[kind] + ")", 1).due("alarm(0, " + (votes[kind] + 1) + ")", 0);
        }
    }
}
