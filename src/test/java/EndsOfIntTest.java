import java.lang.reflect.Method;
import java.util.ArrayList;
import java.util.Arrays;
import java.util.List;

/** Every call with numbers at the ends of int and round 0, in several shops, on Proofpress and on the model. */
final class EndsOfIntTest {

    private static final int[] NUMBERS = {Integer.MIN_VALUE, -1, 0, Integer.MAX_VALUE};

    public static void main(String[] args) {
        Run[] runs = {
            new Run(),
            Runs.text(""),
            Runs.text(Shop.letters(80)),
            Runs.ordered("abc", 1, 1),
            Runs.printed(),
            Runs.atWork(),
            new Run().times(9, "pass", 100).call("pass", 99),
            new Run().times(10, "supply", 9999, 99).call("supply", 9, 9),
        };
        for (int i = 0; i < runs.length; i++) {
            for (Method method : Run.face()) {
                checkAll(i, runs[i], method);
            }
        }
        Check.end();
    }

    private static void checkAll(int number, Run run, Method method) {
        List<String> before = State.of(run);
        for (Object[] arguments : choices(method.getParameterTypes())) {
            String call = "run " + number + " " + method.getName() + Arrays.toString(arguments);
            Object want = run.playOnModel().ask(method.getName(), arguments);
            Check.due(call, want, () -> run.play().ask(method.getName(), arguments));
            if (want instanceof Class) {
                Check.due(call + " changes nothing", "none",
                        () -> State.difference(before, State.of(run.withRefused(method.getName(), arguments))));
            }
        }
    }

    /** All arguments of the types, each number with each other one. */
    private static List<Object[]> choices(Class<?>[] types) {
        List<Object[]> choices = new ArrayList<>();
        choices.add(new Object[types.length]);
        for (int i = 0; i < types.length; i++) {
            List<Object[]> longer = new ArrayList<>();
            for (Object[] choice : choices) {
                for (Object value : valuesOf(types[i])) {
                    Object[] with = choice.clone();
                    with[i] = value;
                    longer.add(with);
                }
            }
            choices = longer;
        }
        return choices;
    }

    private static List<Object> valuesOf(Class<?> type) {
        List<Object> values = new ArrayList<>();
        if (type == boolean.class) {
            values.add(true);
            values.add(false);
            return values;
        }
        for (int number : NUMBERS) {
            values.add(number);
        }
        return values;
    }
}
