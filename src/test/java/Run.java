import java.lang.reflect.InvocationTargetException;
import java.lang.reflect.Method;
import java.util.Arrays;

/** A run of calls on one new AlarmKinds; it prints every call whose answer is not the one that is due. */
final class Run {
    /** What a later call answers is free, so a test that makes one would prove nothing. */
    private static final int MOST_CALLS = 512;

    private static int wrong = 0;
    private static int checked = 0;

    private final String name;
    private final AlarmKinds panel = new AlarmKinds();
    private int calls = 0;

    Run(String name) {
        this.name = name;
    }

    /** Checks a call, written as in "read(0, 100)"; due is a number or the name of an exception. */
    Run due(String call, Object due) {
        same(name + ": " + call, call(call), due.toString());
        return this;
    }

    /** Makes a call whose answer another check looks at. */
    Run after(String call) {
        call(call);
        return this;
    }

    /** Makes the same call many times. */
    Run after(int times, String call) {
        for (int i = 0; i < times; i++) {
            call(call);
        }
        return this;
    }

    /** All that can be asked of the panel without changing it. */
    String everything() {
        StringBuilder all = new StringBuilder();
        for (int what = 0; what < 4; what++) {
            all.append(" count ").append(what).append(" is ").append(call("count(" + what + ")"));
        }
        int detectors = Integer.parseInt(call("count(0)"));
        for (int i = 0; i < 8 * detectors; i++) {
            String call = "tell(" + i / 8 + ", " + i % 8 + ")";
            all.append(' ').append(call).append(" is ").append(call(call));
        }
        int rules = Math.min(200, Integer.parseInt(call("count(1)")));
        for (int i = 0; i <= rules; i++) {
            all.append(" trace ").append(i).append(" is ").append(call("trace(" + i + ")"));
        }
        return all.toString();
    }

    /** Checks the latest rules of the trace, the oldest of them first. */
    Run trace(int... rules) {
        for (int i = 0; i < rules.length; i++) {
            due("trace(" + (rules.length - 1 - i) + ")", rules[i]);
        }
        return this;
    }

    /** Checks all that tell answers of a detector. */
    Run state(int detector, int... values) {
        for (int what = 0; what < values.length; what++) {
            due("tell(" + detector + ", " + what + ")", values[what]);
        }
        return this;
    }

    private String call(String call) {
        calls++;
        if (calls > MOST_CALLS) {
            throw new IllegalStateException("the test makes more than " + MOST_CALLS + " calls: " + name);
        }
        return answer(panel, call);
    }

    static void same(String what, String got, String due) {
        checked++;
        if (!got.equals(due)) {
            wrong++;
            System.out.println(what + " answered " + got + ", due is " + due);
        }
    }

    static String answer(AlarmKinds panel, String call) {
        int open = call.indexOf('(');
        String inside = call.substring(open + 1, call.length() - 1).trim();
        String[] words = inside.isEmpty() ? new String[0] : inside.split(",");
        Object[] values = new Object[words.length];
        Class<?>[] types = new Class<?>[words.length];
        for (int i = 0; i < words.length; i++) {
            values[i] = Integer.valueOf(words[i].trim());
            types[i] = int.class;
        }
        try {
            Method method = AlarmKinds.class.getMethod(call.substring(0, open), types);
            return String.valueOf(method.invoke(panel, values));
        } catch (InvocationTargetException e) {
            return nameOf(e.getCause());
        } catch (ReflectiveOperationException e) {
            throw new IllegalArgumentException("there is no call " + call + " with " + Arrays.toString(types), e);
        }
    }

    /** The machine's own division by 0 is told apart from one that the class throws itself. */
    private static String nameOf(Throwable thrown) {
        String simple = thrown.getClass().getSimpleName();
        return "/ by zero".equals(thrown.getMessage()) ? "the machine's " + simple : simple;
    }

    static void end() {
        System.out.println(wrong == 0 ? checked + " answers are as due" : wrong + " answers are not as due");
        if (wrong != 0) {
            System.exit(1);
        }
    }
}
