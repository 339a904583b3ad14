import java.lang.reflect.InvocationTargetException;
import java.lang.reflect.Method;
import java.nio.charset.StandardCharsets;
import java.nio.file.Files;
import java.nio.file.Path;
import java.util.Arrays;
import java.util.Comparator;
import java.util.List;

/** What the tests share: objects made ready, answers that are due, and the run of a test's sentences. */
abstract class Bench {
    static final int MIN = Integer.MIN_VALUE, MAX = Integer.MAX_VALUE;
    static final int UNKNOWN = -1, OUTSIDE = -2, STATE = -3, FULL = -4, NONE = -9;
    static final int NULL = -11, CAST = -12, INDEX = -13, SIZE = -14;
    static final long LOST = Long.MIN_VALUE;
    static final int BYTES = 0, SHORTS = 1, INTS = 2;

    /** STEPS 4: a short TALE, a DOUBLE one, an OLD one that needs but one FACT, a long TALE. */
    static final String WOODS = "r4;t0120;d1231;o3300;t4563";

    /** On the busy() and the bare() object: a row of each LANE, the last one of none, and a SHEET with nothing. */
    static final int ROW = 0, SHORT_ROW = 1, EMPTY_ROW = 2, NOTHING = 3;
    static final int ROW_LENGTH = 22, SHORT_ROW_LENGTH = 8;

    private static final List<String> NAMING_FAULTS =
        List.of("forest", "night", "comes", "study", "sheet", "put", "cell", "copy", "as");
    private static final List<String> ANSWERING_LONGS = List.of("porter", "cell");

    private static int wrong = 0;
    private static int checks = 0;

    static void due(String what, long got, long want) {
        checks++;
        if (got == want) return;
        wrong++;
        System.out.println(what + " answered " + got + ", due is " + want);
    }

    static void row(CorpseTales x, int k, int lane, int... cells) {
        x.sheet(k, lane, cells.length);
        for (int i = 0; i < cells.length; i++) x.put(k, i, cells[i]);
    }

    static int[] codes(String text) {
        return text.chars().toArray();
    }

    static int take(CorpseTales x, String text) {
        row(x, 3, BYTES, codes(text));
        return x.forest(3, BYTES, 0, text.length());
    }

    static CorpseTales grown(String text) {
        CorpseTales x = new CorpseTales();
        due("forest " + text, take(x, text), (text.length() - 2) / 6);
        return x;
    }

    static CorpseTales knowing(CorpseTales x, int... facts) {
        for (int fact : facts) x.know(fact, true);
        return x;
    }

    static CorpseTales believing(CorpseTales x, int... facts) {
        for (int fact : facts) x.believe(fact, true);
        return x;
    }

    static int[] order(int... tales) {
        return tales;
    }

    /** FAR, FLIGHTS, HEARD, what he KNOWS then, whether he has COME. */
    static void dueNight(CorpseTales x, int[] order, int... want) {
        row(x, 2, SHORTS, order);
        String name = "night by " + Arrays.toString(order);
        for (int what = 0; what < 4; what++) {
            due(name + " what " + what, x.night(2, SHORTS, 0, order.length, what), want[what]);
        }
        due(name + " comes", x.comes(2, SHORTS, 0, order.length), want[4]);
    }

    /** A call by its name; true is 1. */
    static long answer(CorpseTales x, String call, int... with) {
        for (Method method : CorpseTales.class.getMethods()) {
            if (!method.getName().equals(call) || method.getParameterCount() != with.length) continue;
            Object[] arguments = new Object[with.length];
            for (int k = 0; k < with.length; k++) {
                boolean isBoolean = method.getParameterTypes()[k] == boolean.class;
                arguments[k] = isBoolean ? (Object) (with[k] == 1) : (Object) with[k];
            }
            try {
                return ((Number) method.invoke(x, arguments)).longValue();
            } catch (IllegalAccessException | InvocationTargetException e) {
                throw new IllegalStateException(told(call, with) + " threw", e);
            }
        }
        throw new IllegalStateException("there is no call " + told(call, with));
    }

    private static String told(String call, int... with) {
        return call + Arrays.toString(with);
    }

    static void due(CorpseTales x, long want, String call, int... with) {
        due(told(call, with), answer(x, call, with), want);
    }

    /** Without a FOREST: ROW has 20 times TALE 2 and then what is no TALE, SHORT_ROW a TEXT. */
    static CorpseTales bare() {
        CorpseTales x = new CorpseTales();
        int[] cells = new int[ROW_LENGTH];
        Arrays.fill(cells, 2);
        cells[20] = 4;
        cells[21] = -1;
        row(x, ROW, BYTES, cells);
        row(x, SHORT_ROW, SHORTS, codes("r7;d0112"));
        row(x, EMPTY_ROW, INTS);
        return x;
    }

    /** As bare(), with WOODS, and with something of all that a call could change. */
    static CorpseTales busy() {
        CorpseTales x = bare();
        take(x, WOODS);
        x.lose(NOTHING);
        knowing(x, 2, 7);
        believing(x, 4);
        x.reading(0, NONE, 1);
        x.reading(1, 2, 0);
        x.tell(1);
        return x;
    }

    /** All that calls tell of an object, but for fault(), which the asking changes. */
    private static String stateOf(CorpseTales x) {
        StringBuilder state = new StringBuilder();
        for (int what = 0; what < 5; what++) state.append(x.many(what)).append(' ');
        state.append(x.trace()).append(" tales");
        int tales = x.many(0);
        for (int t = 0; t < tales; t++) {
            for (int what = 0; what < 6; what++) state.append(' ').append(x.ofTale(t, what));
        }
        state.append(" fits");
        for (int what = 0; what < 3; what++) state.append(' ').append(x.fits(what));
        for (int k = 0; k < 4; k++) state.append(" sheet").append(sheetOf(x, k));
        return state.toString();
    }

    private static String sheetOf(CorpseTales x, int k) {
        StringBuilder cells = new StringBuilder();
        for (int lane = 0; lane < 3; lane++) {
            cells.append(" lane");
            for (int i = 0; i <= 60; i++) {
                long value = x.cell(k, i, lane);
                if (value == LOST) break;
                cells.append(' ').append(value);
            }
            cells.append(" fault ").append(x.fault());
        }
        return cells.toString();
    }

    /** A refusal: it is answered so, nothing is changed but fault(), and that only by a call that names FAULTS. */
    static void refused(CorpseTales x, int refusal, String call, int... with) {
        dueUnchanged(x, refusal, NAMING_FAULTS.contains(call) ? 0 : 4, call, with);
    }

    /** A FAULT (as it is answered): it is answered so, fault() tells it, and nothing else is changed. */
    static void faulted(CorpseTales x, int answered, String call, int... with) {
        dueUnchanged(x, answered, -10 - answered, call, with);
    }

    private static void dueUnchanged(CorpseTales x, int want, int faultThen, String call, int... with) {
        String ahead = stateOf(x);
        if (faultThen == 4 && want == SIZE) x.put(ROW, MIN, 0);
        else x.sheet(ROW, BYTES, -1);
        due(x, ANSWERING_LONGS.contains(call) ? LOST : want, call, with);
        due("fault() behind " + told(call, with), x.fault(), faultThen);
        String then = stateOf(x);
        checks++;
        if (then.equals(ahead)) return;
        wrong++;
        System.out.println(told(call, with) + " changed something:\n  " + ahead + "\n  " + then);
    }

    /** Runs each method that bears words of the document, each for itself, and ends the program. */
    static void runSentences(Class<?> test) {
        Method[] methods = test.getDeclaredMethods();
        Arrays.sort(methods, Comparator.comparing(Method::getName));
        int sentences = 0;
        int broken = 0;
        for (Method method : methods) {
            Says says = method.getAnnotation(Says.class);
            if (says == null) continue;
            sentences++;
            if (isHeld(method, says)) continue;
            broken++;
            System.out.println("broken: " + method.getName() + ": \"" + says.value() + "\"");
        }
        System.out.println(sentences + " sentences, " + broken + " broken");
        end();
    }

    private static boolean isHeld(Method method, Says says) {
        int wrongAhead = wrong;
        int checksAhead = checks;
        try {
            method.setAccessible(true);
            method.invoke(null);
        } catch (IllegalAccessException | InvocationTargetException e) {
            wrong++;
            System.out.println(method.getName() + " ended by " + e.getCause());
        }
        if (checks == checksAhead || !isInDocument(says)) {
            wrong++;
            System.out.println(method.getName() + " has no answers, or words that the document has not");
        }
        return wrong == wrongAhead;
    }

    private static boolean isInDocument(Says says) {
        try {
            String document = Files.readString(Path.of("../shared/DOC.md"), StandardCharsets.UTF_8);
            String heading = "## Promise ";
            int begins = says.promise() == 0 ? 0 : document.indexOf(heading + says.promise() + ":");
            int ends = document.indexOf("\n## ", document.indexOf(heading, begins) + 1);
            if (says.promise() == 0) ends = document.indexOf(heading);
            return begins >= 0 && document.substring(begins, ends).contains(says.value());
        } catch (java.io.IOException e) {
            return false;
        }
    }

    static void end() {
        System.out.println(wrong == 0 ? checks + " answers are as due" : wrong + " answers are not as due");
        if (wrong != 0) System.exit(1);
    }
}
