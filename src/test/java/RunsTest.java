import java.lang.reflect.InvocationTargetException;
import java.lang.reflect.Method;
import java.util.ArrayList;
import java.util.Arrays;
import java.util.Comparator;
import java.util.HashMap;
import java.util.List;
import java.util.Map;

/** Runs of 512 calls, the same each time, on Proofpress and on the model: all answers and exceptions must be alike. */
final class RunsTest {

    private static final int RUNS = 400;
    private static final int CALLS = 512;
    private static final int LONG_RUNS = 6;
    private static final int LONG_CALLS = 4000;
    /** Calls that build up a shop come more often than those that only read it. */
    private static final String[] BUILDERS = {
        "insert", "insert", "insert", "insert", "insert", "insert", "delete", "delete", "sign", "sign", "sign",
        "comment", "answer", "answer", "addDocument", "supply", "order", "order", "print", "print", "print",
        "pass", "pass",
    };
    private static final int[] CODES = {32, 97, 98, 122, 128512, 128527, 99, 100, 96, 128528};
    private static final int[] STRANGE = {-1, Integer.MIN_VALUE, Integer.MAX_VALUE, 1000, 81, 32};

    private static final List<Method> ASKED = new ArrayList<>();
    private static final Map<String, Method> MODELLED = new HashMap<>();
    private static final Map<String, Integer> ANSWERED = new HashMap<>();
    private static final Map<String, Method> BY_NAME = new HashMap<>();

    private static long seed;
    private static int wrong;

    public static void main(String[] args) {
        findMethods();
        for (int run = 0; run < RUNS && wrong < 20; run++) {
            seed = 1_000_003L * run + 17;
            compareRun(run);
        }
        for (int run = 0; run < LONG_RUNS && wrong < 20; run++) {
            seed = 1_000_033L * run + 29;
            useBehindTheLastCall(run);
        }
        for (Method method : ASKED) {
            if (!ANSWERED.containsKey(method.getName())) {
                wrong++;
                System.out.println("no run has an answer of " + method.getName());
            }
        }
        System.out.println(RUNS + " runs compared with the model, " + wrong + " answers not alike");
        if (wrong != 0) {
            System.exit(1);
        }
    }

    private static void findMethods() {
        for (Method method : Proofpress.class.getDeclaredMethods()) {
            if (java.lang.reflect.Modifier.isPublic(method.getModifiers())) {
                ASKED.add(method);
                BY_NAME.put(method.getName(), method);
            }
        }
        ASKED.sort(Comparator.comparing(Method::getName));
        for (Method method : Model.class.getDeclaredMethods()) {
            MODELLED.put(method.getName(), method);
        }
    }

    private static void compareRun(int run) {
        Proofpress asked = new Proofpress();
        Model model = new Model();
        // Some runs edit all the time, some print nearly always.
        int readers = 20 + 20 * (run % 3);
        for (int call = 0; call < CALLS; call++) {
            Method method = nextMethod(readers);
            Object[] arguments = argumentsFor(method, model, run);
            Object got = answer(method, asked, arguments);
            Object want = answer(MODELLED.get(method.getName()), model, arguments);
            if (!got.equals(want)) {
                wrong++;
                System.out.println("run " + run + " call " + call + ": " + method.getName() + Arrays.toString(arguments)
                        + " answered " + got + ", the model " + want);
                return;
            }
            if (!(got instanceof Class)) {
                ANSWERED.merge(method.getName(), 1, Integer::sum);
            }
        }
    }

    /** What calls behind the 512th answer is free, but no call may throw what the document does not name. */
    private static void useBehindTheLastCall(int run) {
        Proofpress asked = new Proofpress();
        Model model = new Model();
        for (int call = 0; call < LONG_CALLS; call++) {
            Method method = nextMethod(30);
            Object[] arguments = argumentsFor(method, model, run);
            Object got = answer(method, asked, arguments);
            answer(MODELLED.get(method.getName()), model, arguments);
            if (got instanceof Class && !Arrays.asList(method.getExceptionTypes()).contains(got)) {
                wrong++;
                System.out.println("long run " + run + " call " + call + ": " + method.getName() + " threw " + got);
            }
        }
    }

    private static Method nextMethod(int readers) {
        return next(100) < readers ? ASKED.get(next(ASKED.size())) : BY_NAME.get(BUILDERS[next(BUILDERS.length)]);
    }

    private static Object answer(Method method, Object on, Object[] arguments) {
        try {
            method.setAccessible(true);
            return method.invoke(on, arguments);
        } catch (InvocationTargetException e) {
            return e.getCause().getClass();
        } catch (IllegalAccessException e) {
            throw new IllegalStateException(e);
        }
    }

    private static Object[] argumentsFor(Method method, Model model, int run) {
        Class<?>[] types = method.getParameterTypes();
        Object[] arguments = new Object[types.length];
        for (int i = 0; i < types.length; i++) {
            if (types[i] == boolean.class) {
                arguments[i] = next(2) == 0;
            } else if (next(40) == 0) {
                arguments[i] = STRANGE[next(STRANGE.length)];
            } else {
                arguments[i] = usual(method.getName(), i, arguments, model, run);
            }
        }
        return arguments;
    }

    private static int usual(String name, int position, Object[] before, Model model, int run) {
        if (position == 0) {
            return usualFirst(name, run);
        }
        switch (name) {
            case "insert":
                return position == 1 ? placeIn(before, model) : CODES[next(CODES.length)];
            case "delete":
            case "bar":
            case "codeAt":
                return placeIn(before, model);
            case "comment":
                return position == 1 ? placeIn(before, model) : (int) before[1] + next(4);
            case "close":
                return next(4) == 0 ? next(60) : 999;
            case "supply":
                return next(run % 5 == 0 ? 3 : 100);
            case "order":
                return position == 1 ? 1 + next(next(3) == 0 ? 500 : 20) : next(30);
            default:
                return position == 1 ? next(4) : next(33);
        }
    }

    private static int usualFirst(String name, int run) {
        switch (name) {
            case "supply":
                return next(run % 4 == 0 ? 40 : 3000);
            case "pass":
                return 1 + next(next(20) == 0 ? 100 : 4);
            case "insert":
            case "sign":
            case "delete":
            case "order":
                return next(run % 2 == 0 ? 1 : 3);
            case "comment":
            case "close":
                return next(3);
            case "answer":
            case "isOpen":
            case "spanFrom":
            case "spanTo":
                return next(9);
            default:
                return next(next(3) == 0 ? 7 : 2);
        }
    }

    /** Mostly a place of the document, with its first and last ones more often. */
    private static int placeIn(Object[] before, Model model) {
        int document = (int) before[0];
        int size = document == 0 || document == 1 ? lengthOr0(model, document) : 5;
        switch (next(6)) {
            case 0:
                return size;
            case 1:
                return size - 1;
            case 2:
                return 0;
            default:
                return next(size + 1);
        }
    }

    private static int lengthOr0(Model model, int document) {
        try {
            return model.length(document);
        } catch (java.util.NoSuchElementException e) {
            return 0;
        }
    }

    /** A number from 0 to the bound less 1, from a row that is always the same. */
    private static int next(int bound) {
        seed = seed * 6364136223846793005L + 1442695040888963407L;
        return (int) ((seed >>> 33) % bound);
    }
}
