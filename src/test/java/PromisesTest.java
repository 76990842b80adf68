/** Each promise by itself: ordinary inputs, the edges that the document names, and wrong inputs. */
public final class PromisesTest {
    private static final int UNKNOWN = -101, OUTSIDE = -102, ROOM = -104;
    private static final int LOWEST = Integer.MIN_VALUE, HIGHEST = Integer.MAX_VALUE;
    private static final String FLAT = "IllegalStateException", ARITHMETIC = "ArithmeticException";

    public static void main(String[] args) {
        newObject();
        add();
        addRefuses();
        addRoom();
        read();
        weigh();
        over();
        clear();
        cost();
        tell();
        sweep();
        sweepRefuses();
        alarm();
        alarmRefuses();
        costs();
        trace();
        traceRoom();
        count();
        refusalsChangeNothing();
        Run.end();
    }

    private static void newObject() {
        Run run = new Run("promise 1");
        for (int what = 0; what < 4; what++) {
            run.due("count(" + what + ")", 0);
        }
        run.due("trace(0)", UNKNOWN).due("tell(0, 0)", UNKNOWN).due("costs()", 0);
        for (int zone = 0; zone < 6; zone++) {
            run.due("sweep(" + zone + ", 5)", 0).due("alarm(" + zone + ", 1)", 0);
        }
        run.due("trace(0)", UNKNOWN).due("count(1)", 0);
        new Run("promise 1, another").after("add(0, 0, 0, 0)").after("cost(0)");
        new Run("promise 1, beside another").due("count(0)", 0).due("count(1)", 0);
    }

    private static void add() {
        Run run = new Run("promise 2");
        for (int kind = 0; kind < 8; kind++) {
            run.due("add(" + kind + ", 2, 30, 40)", kind).state(kind, kind, 2, 30, 40, 0, 0, 0, 0);
        }
        run.due("add(0, 0, -10000, 0)", 8).state(8, 0, 0, -10000, 0, 0, 0, 0, 0);
        run.due("add(7, 5, 10000, 100)", 9).state(9, 7, 5, 10000, 100, 0, 0, 0, 0);
        run.due("count(0)", 10).due("count(1)", 0);
    }

    private static void addRefuses() {
        Run run = new Run("promise 2, outside");
        for (int wrong : new int[] {-1, 8, LOWEST, HIGHEST}) {
            run.due("add(" + wrong + ", 0, 0, 0)", OUTSIDE);
        }
        for (int wrong : new int[] {-1, 6, LOWEST, HIGHEST}) {
            run.due("add(0, " + wrong + ", 0, 0)", OUTSIDE);
        }
        for (int wrong : new int[] {-10001, 10001, LOWEST, HIGHEST}) {
            run.due("add(0, 0, " + wrong + ", 0)", OUTSIDE);
        }
        for (int wrong : new int[] {-1, 101, LOWEST, HIGHEST}) {
            run.due("add(0, 0, 0, " + wrong + ")", OUTSIDE);
        }
        run.due("count(0)", 0).due("add(0, 0, 0, 0)", 0);
    }

    private static void addRoom() {
        Run run = new Run("promise 2, room");
        for (int i = 0; i < 20; i++) {
            run.due("add(" + i % 8 + ", " + i % 6 + ", " + i + ", 1)", i);
        }
        run.due("add(0, 0, 0, 0)", ROOM).due("add(8, 0, 0, 0)", OUTSIDE).due("add(0, 0, 0, 101)", OUTSIDE);
        run.due("count(0)", 20).due("tell(19, 2)", 19).due("tell(20, 2)", UNKNOWN);
    }

    private static void read() {
        Run run = new Run("promise 3").after("add(0, 0, 0, 0)");
        run.due("read(0, 10000)", 2500).due("read(0, -10000)", -625).due("read(0, 0)", -468);
        run.due("tell(0, 5)", 3).due("tell(0, 4)", -468);
        run.due("read(0, 10001)", OUTSIDE).due("read(0, -10001)", OUTSIDE);
        run.due("read(0, " + HIGHEST + ")", OUTSIDE).due("read(0, " + LOWEST + ")", OUTSIDE);
        run.due("read(1, 0)", UNKNOWN).due("read(-1, 0)", UNKNOWN).due("read(20, 0)", UNKNOWN);
        run.due("read(" + HIGHEST + ", 0)", UNKNOWN).due("read(" + LOWEST + ", 0)", UNKNOWN);
        run.due("read(1, 10001)", UNKNOWN).due("tell(0, 5)", 3);

        run = new Run("promise 3, throws").after("add(2, 0, 0, 1)").after("add(5, 0, 0, 1)");
        run.due("read(0, 8)", 2).due("read(0, 8)", FLAT).due("read(0, 10001)", OUTSIDE);
        run.state(0, 2, 0, 0, 0, 2, 1, 0, 0);
        run.due("read(1, 0)", ARITHMETIC).due("read(1, 0)", FLAT).state(1, 5, 0, 0, 0, 0, 0, 0, 0);
    }

    private static void weigh() {
        Run run = new Run("promise 4").after("add(0, 0, 0, 0)").after("add(5, 0, 0, 4)");
        run.due("weigh(0, 10000)", 10000).due("weigh(0, -10000)", -10000).due("weigh(0, -101)", -101);
        run.state(0, 0, 0, 0, 0, 0, 0, 0, 0);
        run.due("weigh(0, 10001)", OUTSIDE).due("weigh(0, -10001)", OUTSIDE);
        run.due("weigh(2, 0)", UNKNOWN).due("weigh(-1, 0)", UNKNOWN).due("weigh(2, 10001)", UNKNOWN);
        run.due("weigh(1, 3)", 333).due("weigh(1, -3)", -333).due("weigh(1, 1001)", 0);
        run.due("weigh(1, 0)", ARITHMETIC).due("weigh(1, 0)", FLAT).due("weigh(1, 5)", FLAT);
        run.due("weigh(1, 10001)", OUTSIDE).due("count(2)", 2).due("count(3)", 1);
    }

    private static void over() {
        Run run = new Run("promise 5").after("add(0, 0, 0, 0)").after("add(0, 0, 1, 0)");
        run.due("over(0)", 1).due("over(1)", 0).after("read(1, 4)").due("over(1)", 1);
        run.after("read(0, -4)").due("over(0)", 0);
        run.due("over(2)", UNKNOWN).due("over(-1)", UNKNOWN).due("over(" + LOWEST + ")", UNKNOWN);
    }

    private static void clear() {
        Run run = new Run("promise 6").after("add(3, 1, 7, 9)").after("read(0, 400)").after("read(0, 400)");
        run.state(0, 3, 1, 7, 9, 174, 2, 2, 0).due("clear(0)", 1).state(0, 3, 1, 7, 9, 0, 0, 2, 0);
        run.due("clear(1)", UNKNOWN).due("clear(-1)", UNKNOWN).due("clear(" + HIGHEST + ")", UNKNOWN);
    }

    private static void cost() {
        Run run = new Run("promise 7").after("add(0, 0, 0, 0)");
        run.due("cost(0)", 10).after("read(0, 1)").due("cost(0)", 11).after("clear(0)").due("cost(0)", 10);
        run.due("cost(1)", UNKNOWN).due("cost(-1)", UNKNOWN).due("cost(" + LOWEST + ")", UNKNOWN);
    }

    private static void tell() {
        Run run = new Run("promise 8").after("add(6, 4, -102, 33)").after("read(0, -404)").after("over(0)");
        run.state(0, 6, 4, -102, 33, -101, 1, 0, 1);
        run.due("tell(0, 8)", OUTSIDE).due("tell(0, -1)", OUTSIDE);
        run.due("tell(0, " + HIGHEST + ")", OUTSIDE).due("tell(0, " + LOWEST + ")", OUTSIDE);
        run.due("tell(1, 0)", UNKNOWN).due("tell(-1, 0)", UNKNOWN).due("tell(1, 8)", UNKNOWN);
        run.due("count(1)", 4);
    }

    private static void sweep() {
        Run run = new Run("promise 9");
        run.after("add(2, 3, 0, 0)").after("add(5, 3, 0, 2)").after("add(0, 2, 0, 0)").after("add(1, 3, 0, 0)");
        run.due("sweep(3, 0)", 2).trace(10, 2, 10, 5, 2, 0, 10, 0);
        run.due("sweep(3, 8)", 1).trace(10, 2, 10, 5, 2, 0, 10, 0);
        run.state(0, 2, 3, 0, 0, 0, 0, 0, 0).state(1, 5, 3, 0, 0, 31, 1, 0, 0);
        run.state(2, 0, 2, 0, 0, 0, 0, 0, 0).state(3, 1, 3, 0, 0, 2, 2, 0, 0);
        run.due("sweep(3, 0)", 2).due("count(2)", 4).due("count(3)", 1);
        run.due("sweep(2, 10000)", 0).due("tell(2, 4)", 2500).due("sweep(2, -10000)", 0).due("tell(2, 4)", -625);
        run.due("sweep(0, 8)", 0).due("sweep(5, 8)", 0);
    }

    private static void sweepRefuses() {
        Run run = new Run("promise 9, outside").after("add(0, 0, 0, 0)").after("add(0, 5, 0, 0)");
        for (int wrong : new int[] {-1, 6, LOWEST, HIGHEST}) {
            run.due("sweep(" + wrong + ", 0)", OUTSIDE);
        }
        for (int wrong : new int[] {-10001, 10001, LOWEST, HIGHEST}) {
            run.due("sweep(0, " + wrong + ")", OUTSIDE);
        }
        run.due("count(1)", 0).due("sweep(5, 0)", 0).due("tell(0, 5)", 0).due("tell(1, 5)", 1);
    }

    private static void alarm() {
        Run run = new Run("promise 10");
        run.after("add(0, 0, 0, 0)").after("add(7, 0, 0, 0)").after("add(1, 0, 0, 0)");
        run.after("add(6, 0, 0, 0)").after("add(0, 1, 0, 0)").after("add(3, 0, 1, 0)");
        run.due("alarm(0, 7)", 1).trace(20, 20, 20, 26, 20, 20).due("tell(3, 7)", 1);
        run.due("alarm(0, 8)", 0).trace(20, 20, 20, 26, 20).due("count(1)", 11);
        run.due("alarm(0, 1)", 1).trace(20, 20, 20, 26, 20).due("count(1)", 16);
        run.due("alarm(1, 3)", 1).due("alarm(1, 4)", 0).due("alarm(2, 1)", 0);

        run = new Run("promise 10, most votes");
        for (int i = 0; i < 20; i++) {
            run.after("add(0, 5, 0, 0)");
        }
        run.due("alarm(5, 60)", 1).after("read(19, -4)").due("alarm(5, 60)", 0).due("alarm(5, 57)", 1);
    }

    private static void alarmRefuses() {
        Run run = new Run("promise 10, outside").after("add(6, 0, 0, 0)").after("add(6, 5, 0, 0)");
        for (int wrong : new int[] {-1, 6, LOWEST, HIGHEST}) {
            run.due("alarm(" + wrong + ", 1)", OUTSIDE);
        }
        for (int wrong : new int[] {0, -1, 61, LOWEST, HIGHEST}) {
            run.due("alarm(0, " + wrong + ")", OUTSIDE);
        }
        run.due("count(1)", 0).due("tell(0, 7)", 0).due("alarm(0, 60)", 0).due("tell(0, 7)", 1);
    }

    private static void costs() {
        Run run = new Run("promise 11").due("costs()", 0);
        run.after("add(0, 0, 0, 0)").after("add(2, 5, 0, 0)").after("add(6, 1, 0, 0)").due("costs()", 45);
        run.trace(40, 42, 40, 46, 40).after("read(0, 1)").due("costs()", 46);
    }

    private static void trace() {
        Run run = new Run("promise 12").due("trace(0)", UNKNOWN).after("add(1, 0, 0, 0)").due("trace(0)", UNKNOWN);
        run.after("read(0, 3)").due("trace(0)", 0).due("trace(1)", 10).due("trace(2)", UNKNOWN);
        run.due("trace(-1)", UNKNOWN).due("trace(" + LOWEST + ")", UNKNOWN).due("trace(" + HIGHEST + ")", UNKNOWN);
        run.after("over(0)").after("clear(0)").after("cost(0)").trace(10, 0, 20, 30, 40).due("trace(5)", UNKNOWN);
    }

    private static void traceRoom() {
        Run run = new Run("promise 12, the latest 200").after("add(0, 0, 0, 0)").after("over(0)");
        for (int i = 0; i < 198; i++) {
            run.after("cost(0)");
        }
        run.due("trace(198)", 20).due("trace(199)", UNKNOWN).after("clear(0)");
        run.due("trace(199)", 20).due("trace(0)", 30).due("trace(200)", UNKNOWN).after("over(0)");
        run.due("trace(199)", 40).due("trace(200)", UNKNOWN).trace(40, 30, 20).due("count(1)", 201);
        for (int i = 0; i < 198; i++) {
            run.after("weigh(0, 1)");
        }
        run.due("trace(199)", 30).due("trace(198)", 20).due("trace(197)", 0).due("trace(0)", 0);
        run.due("trace(200)", UNKNOWN).due("count(1)", 399);
    }

    private static void count() {
        Run run = new Run("promise 13").after("add(5, 0, 0, 2)").after("add(4, 0, 0, 1)");
        run.due("count(0)", 2).after("weigh(0, 0)").due("count(1)", 3).due("count(3)", 1).due("count(2)", 0);
        run.after("read(1, 100)").due("count(1)", 9).due("count(2)", 1).due("count(3)", 1);
        run.after("sweep(0, 0)").due("count(1)", 16).due("count(2)", 2).due("count(3)", 2);
        run.due("count(4)", OUTSIDE).due("count(-1)", OUTSIDE);
        run.due("count(" + LOWEST + ")", OUTSIDE).due("count(" + HIGHEST + ")", OUTSIDE);
    }

    private static void refusalsChangeNothing() {
        Run run = new Run("codes").after("add(4, 0, 5, 9)").after("read(0, 50)");
        run.after("read(0, 10001)").after("read(1, 0)").after("weigh(0, -10001)").after("weigh(9, 1)");
        run.after("over(3)").after("clear(-1)").after("cost(1)").after("tell(0, 9)").after("sweep(6, 0)");
        run.after("sweep(0, 10001)").after("alarm(0, 0)").after("alarm(7, 1)").after("add(0, 9, 0, 0)");
        run.state(0, 4, 0, 5, 7, 21, 2, 0, 0).due("count(0)", 1).due("count(1)", 7).due("count(2)", 0);
    }
}
