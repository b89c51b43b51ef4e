import java.util.ArrayList;
import java.util.Arrays;
import java.util.List;

/** All that can be asked of a shop after a run, and what later calls tell of it. */
final class State {

    private static final int DOCUMENTS = 3;
    private static final int COMMENTS = 8;
    private static final int ORDERS = 6;
    private static final int SHEETS = 3;

    /** The answers, each with its call. */
    private final List<String> answers = new ArrayList<>();
    private final Run run;
    private Run.Played played;

    private State(Run run) {
        this.run = run;
    }

    /** Each part is asked on an object of its own, since an object is promised 512 calls only. */
    static List<String> of(Run run) {
        State state = new State(run);
        state.texts();
        for (int document = 0; document < DOCUMENTS; document++) {
            state.bars(document);
            state.proof(document);
        }
        state.comments();
        state.house();
        state.orders();
        for (int order = 0; order < ORDERS; order++) {
            state.plates(order);
        }
        state.closingHours();
        state.roomForMore();
        state.stockForMore();
        state.hoursOfThePress();
        for (int document = 0; document < DOCUMENTS; document++) {
            state.nextSignature(document);
        }
        return state.answers;
    }

    /** The first answer that differs, or "none". */
    static String difference(List<String> before, List<String> after) {
        for (int i = 0; i < Math.min(before.size(), after.size()); i++) {
            if (!before.get(i).equals(after.get(i))) {
                return before.get(i) + " became " + after.get(i);
            }
        }
        return before.size() == after.size() ? "none" : "another number of answers";
    }

    private Object ask(String name, Object... arguments) {
        Object answer = played.ask(name, arguments);
        answers.add(name + Arrays.toString(arguments) + " = " + answer);
        return answer;
    }

    private int number(String name, Object... arguments) {
        Object answer = ask(name, arguments);
        return answer instanceof Integer ? (Integer) answer : 0;
    }

    private void texts() {
        played = run.play();
        for (int document = 0; document < DOCUMENTS; document++) {
            ask("version", document);
            int length = number("length", document);
            for (int place = 0; place < length; place++) {
                ask("codeAt", document, place);
            }
        }
        ask("meanLength");
    }

    private void bars(int document) {
        played = run.play();
        int length = number("length", document);
        for (int place = 0; place <= length; place++) {
            ask("bar", document, place, true);
            ask("bar", document, place, false);
        }
    }

    private void proof(int document) {
        played = run.play();
        ask("signed", document);
        askSheets(document);
    }

    private void askSheets(int document) {
        int sheets = number("sheets", document);
        for (int sheet = 0; sheet < sheets; sheet++) {
            for (int index = 0; index < 32; index++) {
                ask("shown", document, sheet, index);
                ask("shownByLog", document, sheet, index);
            }
            for (int position = 0; position < 4; position++) {
                ask("pageOn", document, sheet, position);
            }
        }
    }

    private void comments() {
        played = run.play();
        for (int comment = 0; comment <= COMMENTS; comment++) {
            ask("isOpen", comment);
            ask("spanFrom", comment);
            ask("spanTo", comment);
        }
    }

    private void house() {
        played = run.play();
        ask("hour");
        ask("onPress");
        ask("paper");
        ask("plates");
        ask("freePaper");
        ask("nextOrder");
        ask("goodShare");
    }

    private void orders() {
        played = run.play();
        askOrders();
    }

    private void askOrders() {
        for (int order = 0; order <= ORDERS; order++) {
            ask("needs", order);
            ask("isDone", order);
            ask("lateBy", order);
            ask("nextSheet", order);
            ask("platesFor", order);
            ask("wasted", order);
            ask("cost", order);
            for (int sheet = 0; sheet < SHEETS; sheet++) {
                ask("stateOf", order, sheet);
            }
        }
    }

    private void plates(int order) {
        played = run.play();
        for (int sheet = 0; sheet < SHEETS; sheet++) {
            int length = number("plateLength", order, sheet);
            for (int index = 0; index < length; index++) {
                ask("plateAt", order, sheet, index);
            }
        }
    }

    private void closingHours() {
        played = run.play();
        for (int document = 0; document < DOCUMENTS; document++) {
            ask("close", document, 0);
        }
    }

    private void roomForMore() {
        played = run.play();
        for (int i = 0; i <= DOCUMENTS; i++) {
            ask("addDocument");
        }
        for (int i = 0; i <= COMMENTS; i++) {
            ask("comment", 0, 0, 1);
        }
        ask("supply", 9999, 99);
        for (int i = 0; i <= ORDERS; i++) {
            ask("order", 0, 1, 0);
        }
    }

    private void stockForMore() {
        played = run.play();
        for (int i = 0; i < 10; i++) {
            ask("supply", 9999, 99);
        }
        ask("paper");
        ask("plates");
    }

    private void hoursOfThePress() {
        played = run.play();
        for (int i = 0; i < 7; i++) {
            ask("pass", 1);
            ask("onPress");
            ask("hour");
        }
        askOrders();
        ask("goodShare");
    }

    /** What is on the press or in the log, or was printed, shows when the document is signed once more. */
    private void nextSignature(int document) {
        played = run.play();
        for (int comment = 0; comment < COMMENTS; comment++) {
            ask("answer", comment);
        }
        for (int i = 0; i < 7; i++) {
            ask("pass", 1);
        }
        ask("close", document, 999);
        ask("delete", document, 0);
        ask("insert", document, 0, 'z');
        ask("sign", document);
        ask("signed", document);
        int sheets = number("sheets", document);
        for (int sheet = 0; sheet < sheets; sheet++) {
            for (int index = 0; index < 32; index++) {
                ask("shownByLog", document, sheet, index);
            }
        }
        askOrders();
    }
}
