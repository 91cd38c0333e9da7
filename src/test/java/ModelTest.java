import java.lang.reflect.InvocationTargetException;
import java.lang.reflect.Method;
import java.util.ArrayDeque;
import java.util.Arrays;
import java.util.Comparator;
import java.util.Deque;
import java.util.Locale;
import java.util.Map;
import java.util.TreeMap;

/**
 * Runs of 512 calls made up by a fixed row of numbers, made on the class and on the model: both
 * must answer the same.
 */
public final class ModelTest {
    private static final int RUNS = 1500;
    /** What a run does more often than others do. */
    private static final String[] MOODS = {"", "pass", "type", "blend", "undo", "move"};
    private static final String[] TELLING = {"stageOf", "batchOf", "vesselOf", "lineOf", "count",
        "targets", "quickest", "soonest", "urgent", "fault"};
    private static final String[] BUILDING = {"recipe", "stage", "vessel", "line", "cleaning",
        "set"};
    private static final String[] DOING = {"begin", "begin", "begin", "begin", "begin", "begin",
        "move", "move", "move", "move", "move", "end", "end", "end", "end", "blend", "blend",
        "blend", "pass", "pass", "pass", "pass", "pass", "undo", "discard", "play", "play", "type",
        "type", "clearText"};

    private static final Map<String, int[]> answers = new TreeMap<>();
    private static final Method[] calls = BatchCellars.class.getDeclaredMethods();

    private static long seed;
    private static String mood;
    private static BatchCellars cellars;
    private static Model model;
    private static final Deque<Integer> typed = new ArrayDeque<>();

    public static void main(String[] args) throws ReflectiveOperationException {
        Arrays.sort(calls, Comparator.comparing(Method::getName));
        for (int run = 0; run < RUNS; run++) {
            seed = run;
            mood = MOODS[run % MOODS.length];
            run(run);
        }
        enough();
        Due.close();
    }

    private static void run(int run) throws ReflectiveOperationException {
        cellars = new BatchCellars();
        model = new Model();
        typed.clear();
        for (int step = 0; step < 512; step++) {
            String name = step < 20 && number(10) > 0 ? opening(step) : anyName();
            Method call = callOf(name);
            Object[] arguments = argumentsOf(name, call.getParameterCount());
            int due = (int) Model.class.getMethod(name, call.getParameterTypes())
                    .invoke(model, arguments);
            int got = answerOf(call, arguments);
            Due.due("run " + run + ", step " + step + ", " + name + Arrays.toString(arguments),
                    got, due);
            if (name.equals("clearText")) {
                typed.clear();
            }
            int[] counted = answers.computeIfAbsent(name, any -> new int[5]);
            counted[due < 0 ? -due : 0]++;
        }
    }

    private static int answerOf(Method call, Object[] arguments) throws IllegalAccessException {
        try {
            return (int) call.invoke(cellars, arguments);
        } catch (InvocationTargetException thrown) {
            System.out.println(call.getName() + " threw " + thrown.getCause());
            return Integer.MIN_VALUE;
        }
    }

    private static Method callOf(String name) {
        for (Method call : calls) {
            if (call.getName().equals(name)) {
                return call;
            }
        }
        throw new IllegalArgumentException(name);
    }

    /** Runs that never come to an answer that a call may give would prove little. */
    private static void enough() {
        String[] errors = {"", " INVALID_ARGUMENT", " NOT_POSSIBLE", " LIMIT_REACHED", " NOT_FOUND"};
        String[] may = {"recipe 0 1 3", "stage 0 1 2 3", "vessel 0 1 3", "line 0 1 3",
            "cleaning 0 1", "stageOf 0 1 4", "begin 0 1 2", "move 0 1 2", "end 0 1 2",
            "discard 0 1", "blend 0 1 2", "pass 0 1 3", "set 0 1", "batchOf 0 1", "vesselOf 0 1 4",
            "lineOf 0 1", "count 0 1", "targets 0 1", "quickest 0 1 4", "soonest 0 1 4",
            "urgent 0 1 4", "undo 0 2", "type 0 1 3", "clearText 0", "fault 0 1 4", "play 0 2"};
        for (String row : may) {
            String[] parts = row.split(" ");
            int[] counted = answers.get(parts[0]);
            for (int answer = 0; answer < 5; answer++) {
                boolean due = row.contains(" " + answer);
                boolean fits = due ? counted[answer] >= 50 : counted[answer] == 0;
                Due.due(parts[0] + errors[answer] + " times " + counted[answer], fits ? 1 : 0, 1);
            }
        }
    }

    // ---- the made-up calls

    private static int number(int bound) {
        seed = seed * 6364136223846793005L + 1442695040888963407L;
        return (int) ((seed >>> 33) % bound);
    }

    private static String opening(int step) {
        return step < 2 ? "recipe" : step < 8 ? "stage" : step < 13 ? "vessel"
                : step < 16 ? "line" : "begin";
    }

    private static String anyName() {
        if (!typed.isEmpty()) {
            return "type";
        }
        int odds = number(20);
        if (odds > 15 && !mood.isEmpty()) {
            return mood;
        }
        return odds == 0 ? oneOf(BUILDING) : oneOf(odds < 8 ? DOING : TELLING);
    }

    private static String oneOf(String[] names) {
        return names[number(names.length)];
    }

    private static Object[] argumentsOf(String name, int count) {
        Object[] arguments = new Object[count];
        for (int i = 0; i < count; i++) {
            arguments[i] = number(60) == 0 ? wild() : usual(name, i, arguments);
        }
        return arguments;
    }

    private static int wild() {
        int[] some = {-1, 1000, 4, 6, Integer.MIN_VALUE, Integer.MAX_VALUE, 1 << 16, 500, 99, 127};
        return some[number(some.length)];
    }

    private static int usual(String name, int i, Object[] ahead) {
        switch (name) {
            case "recipe":
                return number(4);
            case "stage":
                return i == 4 && ahead[3] instanceof Integer ? (int) ahead[3] + ageing()
                        : i == 3 ? ageing() : i == 2 ? work() : number(2);
            case "vessel":
                return i == 0 ? number(2) : mass();
            case "line":
                return i == 0 ? number(8) > 0 ? (1 << model.count(1)) - 1 : number(64)
                        : 1 + number(99);
            case "cleaning":
                return i < 2 ? number(4) : number(100);
            case "set":
                return i == 0 ? number(2) : number(51);
            case "type":
                return sign();
            case "pass":
                return number(mood.equals("pass") ? 3 : 40) == 0 ? 999 : 1 + number(12);
            default:
                return usualOfBatch(name, i);
        }
    }

    private static int ageing() {
        return number(30) == 0 ? number(501) : number(12);
    }

    private static int work() {
        return number(30) == 0 ? 200 : 1 + number(6);
    }

    private static int mass() {
        return number(10) == 0 ? 1 + number(999) : 40 + number(60);
    }

    private static int usualOfBatch(String name, int i) {
        switch (name) {
            case "begin":
                return i == 0 ? number(2) : i == 1 ? number(4) == 0 ? mass() : 1 + number(60)
                        : number(6);
            case "blend":
                return i == 0 ? aBatch(2, 0) : 1 + number(6);
            case "move":
                return i == 0 ? aBatch(6, 1) : number(6);
            case "end":
                return aBatch(6, 1);
            case "stageOf":
                return i == 2 ? number(6) : number(5);
            case "vesselOf":
            case "lineOf":
                return number(6);
            case "count":
                return number(5) == 0 ? 20 + number(16) : number(14);
            case "fault":
                return number(2);
            case "urgent":
                return number(4);
            default:
                return i == 0 ? aBatch(7, number(2)) : name.equals("quickest") ? number(2) : number(12);
        }
    }

    /** A batch of which this is told, if there is one, at most times. */
    private static int aBatch(int what, int told) {
        int batch = number(6);
        for (int tries = 0; tries < 12 && model.batchOf(batch, what) != told; tries++) {
            batch = number(6);
        }
        return batch;
    }

    private static int sign() {
        if (number(50) == 0) {
            return 32 + number(95);
        }
        if (typed.isEmpty()) {
            command().chars().forEach(typed::add);
        }
        return typed.remove();
    }

    private static String command() {
        String[] forms = {"b%d,%d,%d;", "m%d,%d;", "e%d;", "x%d;", "o%d,%d;", "t%d;", "t%03d;"};
        int form = number(forms.length);
        String[] names = {"begin", "move", "end", "discard", "blend", "pass", "pass"};
        Object[] arguments = new Object[3];
        for (int i = 0; i < 3; i++) {
            int usual = usual(names[form], i, arguments);
            arguments[i] = number(20) == 0 ? number(1001) : usual;
        }
        return String.format(Locale.ROOT, forms[form], arguments);
    }
}
