import java.util.Arrays;
import java.util.List;

/** A shop after a run, of which calls are asked that it must refuse. */
final class Refusal {

    static final int LEAST = Integer.MIN_VALUE;
    static final int GREATEST = Integer.MAX_VALUE;

    private final Run run;
    private final List<String> state;

    Refusal(Run run) {
        this.run = run;
        state = State.of(run);
    }

    /** The call throws just what is due, and nothing is changed by it. */
    void due(String what, Class<? extends RuntimeException> want, String name, Object... arguments) {
        String call = what + ": " + name + Arrays.toString(arguments);
        Check.due(call, want, () -> run.play().ask(name, arguments));
        Check.due(call + " changes nothing", "none",
                () -> State.difference(state, State.of(run.withRefused(name, arguments))));
    }

    /** The same for each of the numbers as the first argument of the call. */
    void dueForEach(int[] firsts, String what, Class<? extends RuntimeException> want, String name, Object... others) {
        for (int first : firsts) {
            Object[] arguments = new Object[others.length + 1];
            arguments[0] = first;
            System.arraycopy(others, 0, arguments, 1, others.length);
            due(what, want, name, arguments);
        }
    }

    /** Numbers that none has of so many things with numbers from 0. */
    static int[] outside(int count) {
        return new int[] {-1, count, LEAST, GREATEST};
    }
}
