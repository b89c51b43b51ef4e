import java.lang.reflect.InvocationTargetException;
import java.lang.reflect.Method;
import java.lang.reflect.Modifier;
import java.util.ArrayList;
import java.util.HashMap;
import java.util.List;
import java.util.Map;

/** A run of calls that is kept, so that it can be made any number of times, each time on a new object. */
final class Run {

    /** An object that has been through a run. It counts its calls: more than 512 of them are not promised. */
    static final class Played {

        private static final int MOST_CALLS = 512;

        private final Object on;
        private final Map<String, Method> methods;
        private int calls;

        private Played(Object on, Map<String, Method> methods) {
            this.on = on;
            this.methods = methods;
        }

        /** Makes the call. The answer of one that throws is the class of what it throws. */
        Object ask(String name, Object... arguments) {
            calls++;
            if (calls > MOST_CALLS) {
                throw new IllegalStateException("the test makes more than 512 calls on one object");
            }
            Method method = methods.get(name);
            try {
                return method.invoke(on, fitted(method, arguments));
            } catch (InvocationTargetException e) {
                return e.getCause().getClass();
            } catch (IllegalAccessException e) {
                throw new IllegalStateException(e);
            }
        }

        /** A letter stands for its code where a call takes a number. */
        private static Object[] fitted(Method method, Object[] arguments) {
            Object[] fitted = arguments.clone();
            for (int i = 0; i < fitted.length; i++) {
                if (fitted[i] instanceof Character && method.getParameterTypes()[i] == int.class) {
                    fitted[i] = (int) (Character) fitted[i];
                }
            }
            return fitted;
        }
    }

    private static final class Call {

        private final String name;
        private final Object[] arguments;
        private final boolean isRefused;

        Call(String name, Object[] arguments, boolean isRefused) {
            this.name = name;
            this.arguments = arguments;
            this.isRefused = isRefused;
        }
    }

    private static final Map<String, Method> ASKED = methodsOf(Proofpress.class);
    private static final Map<String, Method> MODELLED = methodsOf(Model.class);

    private final List<Call> calls = new ArrayList<>();

    static List<Method> face() {
        List<Method> face = new ArrayList<>();
        for (Method method : ASKED.values()) {
            if (Modifier.isPublic(method.getModifiers())) {
                face.add(method);
            }
        }
        face.sort((a, b) -> a.getName().compareTo(b.getName()));
        return face;
    }

    Run call(String name, Object... arguments) {
        calls.add(new Call(name, arguments, false));
        return this;
    }

    /** Puts the text in, its first character at the place. */
    Run type(int document, int place, String text) {
        int[] codes = text.codePoints().toArray();
        for (int i = 0; i < codes.length; i++) {
            call("insert", document, place + i, codes[i]);
        }
        return this;
    }

    Run times(int count, String name, Object... arguments) {
        for (int i = 0; i < count; i++) {
            call(name, arguments);
        }
        return this;
    }

    /** The same calls, and behind them one that must throw. */
    Run withRefused(String name, Object... arguments) {
        Run longer = new Run();
        longer.calls.addAll(calls);
        longer.calls.add(new Call(name, arguments, true));
        return longer;
    }

    Played play() {
        return playOn(new Proofpress(), ASKED);
    }

    Played playOnModel() {
        return playOn(new Model(), MODELLED);
    }

    private Played playOn(Object on, Map<String, Method> methods) {
        Played played = new Played(on, methods);
        for (Call call : calls) {
            Object answer = played.ask(call.name, call.arguments);
            if (answer instanceof Class && !call.isRefused) {
                throw new IllegalStateException(call.name + " of the run threw " + answer);
            }
        }
        return played;
    }

    private static Map<String, Method> methodsOf(Class<?> type) {
        Map<String, Method> methods = new HashMap<>();
        for (Method method : type.getDeclaredMethods()) {
            if (!Modifier.isPrivate(method.getModifiers()) && !method.isSynthetic()) {
                method.setAccessible(true);
                methods.put(method.getName(), method);
            }
        }
        return methods;
    }
}
