import java.lang.reflect.Constructor;
import java.lang.reflect.Field;
import java.lang.reflect.Member;
import java.lang.reflect.Method;
import java.lang.reflect.Modifier;
import java.util.Arrays;
import java.util.Set;
import java.util.TreeSet;

/** The public face of the document, and what LANGUAGE.md says of members. */
final class FaceTest {

    private static final String[] FACE = {
        "int addDocument()", "int insert(int, int, int)", "int delete(int, int)", "char bar(int, int, boolean)",
        "int close(int, int)", "int length(int)", "int codeAt(int, int)", "int version(int)",
        "int comment(int, int, int)", "int answer(int)", "boolean isOpen(int)", "int spanFrom(int)",
        "int spanTo(int)", "int sign(int)", "int signed(int)", "int sheets(int)", "int pageOn(int, int, int)",
        "int shown(int, int, int)", "int shownByLog(int, int, int)", "int supply(int, int)", "int paper()",
        "int plates()", "int order(int, int, int)", "int needs(int)", "int freePaper()", "char stateOf(int, int)",
        "boolean isDone(int)", "int lateBy(int)", "int nextOrder()", "int nextSheet(int)", "int print(int, int)",
        "int onPress()", "int pass(int)", "int hour()", "int plateLength(int, int)", "int plateAt(int, int, int)",
        "int platesFor(int)", "int wasted(int)", "long cost(int)", "float goodShare()", "double meanLength()",
    };

    public static void main(String[] args) {
        publicMethods();
        constructors();
        otherMembersArePrivate();
        noPrivateMethodBearsAPublicName();
        classesInside();
        staticFieldsAreFinal();
        Check.end();
    }

    private static void publicMethods() {
        Set<String> got = new TreeSet<>();
        for (Method method : Proofpress.class.getDeclaredMethods()) {
            if (Modifier.isPublic(method.getModifiers())) {
                String types = Arrays.toString(method.getParameterTypes());
                got.add(method.getReturnType() + " " + method.getName() + "(" + types.substring(1, types.length() - 1) + ")");
            }
        }
        Check.due("public methods", new TreeSet<>(Arrays.asList(FACE)), () -> got);
        Check.due("public and final", Modifier.PUBLIC | Modifier.FINAL, () -> Proofpress.class.getModifiers());
    }

    private static void constructors() {
        Constructor<?>[] all = Proofpress.class.getDeclaredConstructors();
        Check.due("constructors", 1, () -> all.length);
        Check.due("its parameters", 0, () -> all[0].getParameterCount());
        Check.due("public", Modifier.PUBLIC, () -> all[0].getModifiers());
    }

    private static void otherMembersArePrivate() {
        Set<String> open = new TreeSet<>();
        addOpen(open, Proofpress.class.getDeclaredMethods(), Modifier.PUBLIC | Modifier.PRIVATE);
        addOpen(open, Proofpress.class.getDeclaredFields(), Modifier.PRIVATE);
        Check.due("open members", new TreeSet<String>(), () -> open);
    }

    private static void addOpen(Set<String> open, Member[] members, int allowed) {
        for (Member member : members) {
            if ((member.getModifiers() & allowed) == 0) {
                open.add(member.getName());
            }
        }
    }

    private static void noPrivateMethodBearsAPublicName() {
        Set<String> names = new TreeSet<>();
        for (String line : FACE) {
            names.add(line.substring(line.indexOf(' ') + 1, line.indexOf('(')));
        }
        Set<String> shared = new TreeSet<>();
        for (Class<?> inside : Proofpress.class.getDeclaredClasses()) {
            for (Method method : inside.getDeclaredMethods()) {
                shared.add(method.getName());
            }
        }
        for (Method method : Proofpress.class.getDeclaredMethods()) {
            if (Modifier.isPrivate(method.getModifiers())) {
                shared.add(method.getName());
            }
        }
        shared.retainAll(names);
        Check.due("shared names", new TreeSet<String>(), () -> shared);
    }

    private static void classesInside() {
        for (Class<?> inside : Proofpress.class.getDeclaredClasses()) {
            int modifiers = inside.getModifiers();
            boolean closed = !Modifier.isPublic(modifiers) && !Modifier.isProtected(modifiers);
            Check.due(inside + " is not open", true, () -> closed);
            Check.due(inside + " is static", true, () -> Modifier.isStatic(modifiers));
        }
    }

    private static void staticFieldsAreFinal() {
        Set<String> changing = new TreeSet<>();
        addChanging(changing, Proofpress.class);
        for (Class<?> inside : Proofpress.class.getDeclaredClasses()) {
            addChanging(changing, inside);
        }
        Check.due("static fields that can change", new TreeSet<String>(), () -> changing);
    }

    private static void addChanging(Set<String> changing, Class<?> of) {
        for (Field field : of.getDeclaredFields()) {
            if (Modifier.isStatic(field.getModifiers()) && !Modifier.isFinal(field.getModifiers())) {
                changing.add(field.getName());
            }
        }
    }
}
