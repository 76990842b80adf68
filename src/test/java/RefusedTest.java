/** A refused call leaves everything as it was, and so does one that only asks: a panel without it is no other. */
public final class RefusedTest {
    private static final int UNKNOWN = -101, OUTSIDE = -102, ROOM = -104;
    private static final String[] OF_A_DETECTOR = {"read(#, 1)", "read(#, 10001)", "weigh(#, 1)", "weigh(#, -10001)",
        "over(#)", "clear(#)", "cost(#)", "tell(#, 4)", "tell(#, 8)"};
    private static final String[] OUT = {"add(-1, 0, 0, 0)", "add(8, 0, 0, 0)", "add(0, -1, 0, 0)", "add(0, 6, 0, 0)",
        "add(0, 0, -10001, 0)", "add(0, 0, 10001, 0)", "add(0, 0, 0, -1)", "add(0, 0, 0, 101)",
        "sweep(-1, 1)", "sweep(6, 1)", "sweep(0, -10001)", "sweep(0, 10001)",
        "alarm(-1, 1)", "alarm(6, 1)", "alarm(0, 0)", "alarm(0, 61)", "count(-1)", "count(4)"};
    private static final String[] OUT_FOR_A_DETECTOR = {"read(#, -10001)", "read(#, 10001)", "weigh(#, -10001)",
        "weigh(#, 10001)", "tell(#, -1)", "tell(#, 8)"};

    public static void main(String[] args) {
        panelsAreAsMeant();
        for (int panel = 0; panel < 3; panel++) {
            for (String call : OUT) {
                changesNothing(panel, call, OUTSIDE);
            }
            unknownDetectors(panel);
            outsideOfDetectors(panel);
            places(panel);
        }
        for (int kind = 0; kind < 8; kind++) {
            changesNothing(2, "add(" + kind + ", 0, 0, 0)", ROOM);
        }
        askingChangesNothing();
        Run.end();
    }

    /** Panel 0 is new, panel 1 has one detector of each kind, panel 2 has 20 detectors and a full trace. */
    private static Run panel(int which, String name) {
        Run run = new Run(name + ", panel " + which);
        if (which == 0) {
            return run;
        }
        for (int i = 0; i < (which == 1 ? 8 : 20); i++) {
            run.after("add(" + i % 8 + ", " + i % 2 + ", " + (i - 4) + ", " + i % 5 + ")");
        }
        run.after("sweep(0, 40)").after("sweep(1, -44)").after("alarm(0, 1)").after("alarm(1, 3)");
        if (which == 2) {
            run.after("sweep(0, 0)").after("sweep(1, 0)").after("sweep(1, 96)").after("alarm(1, 2)").after("costs()");
        }
        return run;
    }

    /** Else a comparison might hold only since there is nothing that could change. */
    private static void panelsAreAsMeant() {
        panel(0, "as meant").due("count(0)", 0).due("count(1)", 0);
        panel(1, "as meant").due("count(0)", 8).due("count(1)", 42).due("count(2)", 1).due("tell(6, 7)", 1);
        Run full = panel(2, "as meant").due("count(0)", 20).due("count(1)", 251).due("count(2)", 6).due("count(3)", 1);
        full.due("tell(10, 3)", 0).due("tell(19, 6)", -1).due("tell(6, 7)", 1).due("trace(200)", UNKNOWN);
    }

    private static void unknownDetectors(int panel) {
        int[] made = {0, 8, 20};
        for (String call : OF_A_DETECTOR) {
            changesNothing(panel, call.replace("#", "-1"), UNKNOWN);
            changesNothing(panel, call.replace("#", String.valueOf(made[panel])), UNKNOWN);
        }
    }

    private static void outsideOfDetectors(int panel) {
        int[] made = {0, 8, 20};
        for (int detector = 0; detector < made[panel]; detector++) {
            for (String call : OUT_FOR_A_DETECTOR) {
                changesNothing(panel, call.replace("#", String.valueOf(detector)), OUTSIDE);
            }
        }
    }

    private static void places(int panel) {
        int[] kept = {0, 42, 200};
        changesNothing(panel, "trace(-1)", UNKNOWN);
        changesNothing(panel, "trace(" + kept[panel] + ")", UNKNOWN);
    }

    private static void askingChangesNothing() {
        for (int what = 0; what < 8; what++) {
            asksOnly("tell(6, " + what + ")");
        }
        for (int what = 0; what < 4; what++) {
            asksOnly("count(" + what + ")");
        }
        asksOnly("trace(0)");
        asksOnly("trace(199)");
        String without = panel(0, "a new one").everything();
        Run.same("costs() of none", panel(0, "costs of none").due("costs()", 0).everything(), without);
        Run.same("sweep of none", panel(0, "sweep of none").due("sweep(5, 10000)", 0).everything(), without);
        Run.same("alarm of none", panel(0, "alarm of none").due("alarm(5, 60)", 0).everything(), without);
    }

    private static void asksOnly(String call) {
        String asked = panel(2, "asked").after(3, call).everything();
        Run.same("after asking " + call, asked, panel(2, "not asked").everything());
    }

    private static void changesNothing(int panel, String call, int code) {
        String with = panel(panel, "refused").due(call, code).everything();
        Run.same("after " + call + " on panel " + panel, with, panel(panel, "without " + call).everything());
    }
}
