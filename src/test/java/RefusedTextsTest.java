import java.util.NoSuchElementException;

/**
 * Promises 1 to 20: each refused call, with the exception that is due when several are, in the order of the promise,
 * and with nothing changed by it.
 */
final class RefusedTextsTest {

    private static final Class<NoSuchElementException> MISSING = NoSuchElementException.class;
    private static final Class<IndexOutOfBoundsException> OUTSIDE = IndexOutOfBoundsException.class;
    private static final Class<IllegalArgumentException> UNFIT = IllegalArgumentException.class;
    private static final Class<IllegalStateException> STATE = IllegalStateException.class;
    private static final Class<UnsupportedOperationException> BARRED = UnsupportedOperationException.class;

    private static final int LEAST = Refusal.LEAST;
    private static final int GREATEST = Refusal.GREATEST;
    private static final int[] NO_DOCUMENTS = Refusal.outside(2);
    private static final int[] NO_CODES = {
        LEAST, -1, 0, 31, 33, 96, 123, 128511, 128528, GREATEST, 65536 + 97, 65536 + 32, 0xD83D, 0xDE00, 128512 - 65536,
    };

    public static void main(String[] args) {
        newObject();
        addDocument();
        insertOneReason();
        insertPlaceBeforeOthers();
        insertCodeBeforeOthers();
        insertFullBeforeBarred();
        insertBarred();
        delete();
        deletePlaceBeforeBarred();
        bar();
        close();
        readers();
        comment();
        commentsInFull();
        answered();
        sign();
        proofs();
        proofBeforeSheet();
        Check.end();
    }

    private static void newObject() {
        Refusal shop = new Refusal(new Run());
        int[] any = {0, -1, LEAST, GREATEST};
        String[] ofOne = {"length", "version", "sign", "signed", "sheets", "answer", "isOpen", "spanFrom", "spanTo",
            "needs", "isDone", "lateBy", "nextSheet", "platesFor", "wasted", "cost"};
        String[] ofTwo = {"delete", "close", "codeAt", "stateOf", "print", "plateLength"};
        String[] ofThree = {"insert", "comment", "pageOn", "shown", "shownByLog", "order", "plateAt"};
        for (String name : ofOne) {
            shop.dueForEach(any, "1 no document, comment or order", MISSING, name);
        }
        for (String name : ofTwo) {
            shop.dueForEach(any, "1 no document or order", MISSING, name, 0);
        }
        for (String name : ofThree) {
            shop.dueForEach(any, "1 no document or order", MISSING, name, 0, 97);
        }
        shop.dueForEach(any, "1 no document", MISSING, "bar", 0, true);
        shop.due("1 no order", STATE, "nextOrder");
        shop.due("1 no order", ArithmeticException.class, "goodShare");
        shop.due("1 no document", ArithmeticException.class, "meanLength");
    }

    private static void addDocument() {
        new Refusal(new Run().times(3, "addDocument")).due("2 there are 3", STATE, "addDocument");
        new Refusal(Runs.atWork().call("addDocument")).due("2 there are 3", STATE, "addDocument");
    }

    private static void insertOneReason() {
        Refusal shop = new Refusal(Runs.text("ab").call("addDocument"));
        shop.dueForEach(NO_DOCUMENTS, "3 no such document", MISSING, "insert", 0, 'a');
        for (int place : Refusal.outside(3)) {
            shop.due("3 no such place", OUTSIDE, "insert", 0, place, 'a');
        }
        for (int place : Refusal.outside(1)) {
            shop.due("3 no such place in an empty text", OUTSIDE, "insert", 1, place, 'a');
        }
        for (int code : NO_CODES) {
            shop.due("3 no such code", UNFIT, "insert", 0, 1, code);
        }
        Refusal full = new Refusal(Runs.text(Shop.letters(80)));
        for (int place : new int[] {0, 40, 79, 80}) {
            full.due("3 the text is full", STATE, "insert", 0, place, 'a');
        }
        new Refusal(Runs.text("ab").call("close", 0, 0)).due("3 barred", BARRED, "insert", 0, 2, 'a');
    }

    private static void insertPlaceBeforeOthers() {
        Refusal shop = new Refusal(Runs.text(Shop.letters(80)).call("close", 0, 0));
        shop.dueForEach(Refusal.outside(1), "3 document before place, code, full and barred", MISSING, "insert", 81, 0);
        for (int place : Refusal.outside(81)) {
            shop.due("3 place before code, full and barred", OUTSIDE, "insert", 0, place, 96);
            shop.due("3 place before full and barred", OUTSIDE, "insert", 0, place, 'a');
        }
        Refusal closed = new Refusal(Runs.text("ab").call("close", 0, 0));
        closed.due("3 document before barred", MISSING, "insert", 1, 0, 'a');
        closed.due("3 place before barred", OUTSIDE, "insert", 0, 3, 'a');
        Refusal open = new Refusal(Runs.text("ab"));
        open.due("3 document before place", MISSING, "insert", 1, 3, 'a');
        open.due("3 document before code", MISSING, "insert", 1, 0, 33);
        open.due("3 place before code", OUTSIDE, "insert", 0, 3, 33);
    }

    private static void insertCodeBeforeOthers() {
        Refusal both = new Refusal(Runs.text(Shop.letters(80)).call("close", 0, 0));
        Refusal full = new Refusal(Runs.text(Shop.letters(80)));
        Refusal closed = new Refusal(Runs.text("ab").call("close", 0, 0));
        for (int code : new int[] {31, 123, 128528, LEAST, GREATEST}) {
            both.due("3 code before full and barred", UNFIT, "insert", 0, 80, code);
            full.due("3 code before full", UNFIT, "insert", 0, 80, code);
            closed.due("3 code before barred", UNFIT, "insert", 0, 2, code);
        }
    }

    private static void insertFullBeforeBarred() {
        Run full = Runs.text(Shop.letters(80));
        new Refusal(full.call("close", 0, 0)).due("3 full before closed", STATE, "insert", 0, 0, 'a');
        Refusal frozen = new Refusal(Runs.text(Shop.letters(80)).call("comment", 0, 3, 6));
        frozen.due("3 full before frozen", STATE, "insert", 0, 4, 'a');
        Run onPress = Runs.ordered(Shop.letters(80), 3, 1).call("print", 0, 0);
        new Refusal(onPress).due("3 full before locked", STATE, "insert", 0, 0, 'a');
    }

    private static void insertBarred() {
        Refusal shop = new Refusal(Runs.atWork());
        for (int place : new int[] {3, 4}) {
            shop.due("3 frozen", BARRED, "insert", 0, place, 'a');
        }
        // The sheet 1 of two shows the pages 5, 2, 3 and 4.
        for (int place : new int[] {0, 2, 5, 16, 39, 40, 41}) {
            shop.due("3 locked", BARRED, "insert", 0, place, 'a');
        }
        Refusal closed = new Refusal(Runs.atWork().call("close", 0, 4));
        closed.due("3 closed", BARRED, "insert", 0, 41, 32);
    }

    private static void delete() {
        Refusal shop = new Refusal(Runs.atWork());
        shop.dueForEach(NO_DOCUMENTS, "4 no such document", MISSING, "delete", 0);
        for (int place : Refusal.outside(3)) {
            shop.due("4 no such place", OUTSIDE, "delete", 1, place);
        }
        for (int place : new int[] {2, 3, 4}) {
            shop.due("4 frozen", BARRED, "delete", 0, place);
        }
        for (int place : new int[] {0, 1, 5, 15, 16, 39, 40}) {
            shop.due("4 locked", BARRED, "delete", 0, place);
        }
        Refusal empty = new Refusal(Runs.text(""));
        for (int place : Refusal.outside(0)) {
            empty.due("4 no place in an empty text", OUTSIDE, "delete", 0, place);
        }
        Refusal closed = new Refusal(Runs.text("ab").call("close", 0, 0));
        closed.due("4 closed", BARRED, "delete", 0, 0);
        closed.due("4 closed", BARRED, "delete", 0, 1);
    }

    private static void deletePlaceBeforeBarred() {
        Refusal closed = new Refusal(Runs.text("ab").call("close", 0, 0));
        closed.dueForEach(Refusal.outside(1), "4 document before place and barred", MISSING, "delete", 2);
        closed.dueForEach(Refusal.outside(1), "4 document before barred", MISSING, "delete", 0);
        for (int place : Refusal.outside(2)) {
            closed.due("4 place before closed", OUTSIDE, "delete", 0, place);
        }
        Refusal shop = new Refusal(Runs.atWork());
        shop.due("4 place before locked", OUTSIDE, "delete", 0, 41);
        shop.due("4 document before place", MISSING, "delete", 2, 41);
        new Refusal(Runs.text("").call("close", 0, 0)).due("4 place before closed", OUTSIDE, "delete", 0, 0);
    }

    private static void bar() {
        Refusal shop = new Refusal(Runs.atWork());
        shop.dueForEach(NO_DOCUMENTS, "5 no such document", MISSING, "bar", 0, true);
        shop.dueForEach(NO_DOCUMENTS, "5 no such document", MISSING, "bar", 0, false);
        shop.dueForEach(NO_DOCUMENTS, "5 document before place", MISSING, "bar", -1, true);
        for (int place : Refusal.outside(42)) {
            shop.due("5 no such place of an insertion", OUTSIDE, "bar", 0, place, true);
        }
        for (int place : Refusal.outside(41)) {
            shop.due("5 no such place of a deletion", OUTSIDE, "bar", 0, place, false);
        }
        Refusal empty = new Refusal(Runs.text("").call("close", 0, 0));
        for (int place : Refusal.outside(1)) {
            empty.due("5 no such place in an empty text", OUTSIDE, "bar", 0, place, true);
        }
        for (int place : Refusal.outside(0)) {
            empty.due("5 no place in an empty text", OUTSIDE, "bar", 0, place, false);
        }
        Refusal full = new Refusal(Runs.text(Shop.letters(80)));
        full.due("5 behind a full text", OUTSIDE, "bar", 0, 81, true);
        full.due("5 behind the last of a full text", OUTSIDE, "bar", 0, 80, false);
    }

    private static void close() {
        Refusal shop = new Refusal(Runs.atWork().call("close", 0, 17));
        shop.dueForEach(NO_DOCUMENTS, "6 no such document", MISSING, "close", 5);
        shop.dueForEach(NO_DOCUMENTS, "6 document before hour", MISSING, "close", 1000);
        shop.dueForEach(NO_DOCUMENTS, "6 document before hour", MISSING, "close", -1);
        for (int hour : Refusal.outside(1000)) {
            shop.due("6 the hour is out of range", UNFIT, "close", 0, hour);
            shop.due("6 the hour is out of range", UNFIT, "close", 1, hour);
        }
    }

    private static void readers() {
        Refusal shop = new Refusal(Runs.atWork());
        shop.dueForEach(NO_DOCUMENTS, "7 no such document", MISSING, "length");
        shop.dueForEach(NO_DOCUMENTS, "8 no such document", MISSING, "codeAt", 0);
        shop.dueForEach(NO_DOCUMENTS, "8 document before place", MISSING, "codeAt", -1);
        shop.dueForEach(NO_DOCUMENTS, "9 no such document", MISSING, "version");
        for (int place : Refusal.outside(41)) {
            shop.due("8 no such place", OUTSIDE, "codeAt", 0, place);
        }
        for (int place : Refusal.outside(3)) {
            shop.due("8 no such place", OUTSIDE, "codeAt", 1, place);
        }
        Refusal bounds = new Refusal(Runs.text("").call("addDocument").type(1, 0, Shop.letters(80)));
        for (int place : Refusal.outside(0)) {
            bounds.due("8 no place in an empty text", OUTSIDE, "codeAt", 0, place);
        }
        for (int place : Refusal.outside(80)) {
            bounds.due("8 no such place in a full text", OUTSIDE, "codeAt", 1, place);
        }
    }

    private static void comment() {
        Refusal shop = new Refusal(Runs.atWork());
        shop.dueForEach(NO_DOCUMENTS, "10 no such document", MISSING, "comment", 0, 1);
        shop.dueForEach(NO_DOCUMENTS, "10 document before span", MISSING, "comment", 1, 0);
        int[][] spans = {
            {-1, 1}, {-1, 3}, {-1, 0}, {-1, -1}, {0, 0}, {1, 1}, {3, 3}, {0, 4}, {2, 4}, {3, 4}, {4, 4}, {4, 5}, {2, 1},
            {3, 0}, {0, -1}, {LEAST, 1}, {0, GREATEST}, {LEAST, GREATEST}, {GREATEST, LEAST}, {GREATEST, GREATEST},
            {LEAST, LEAST}, {0, LEAST}, {GREATEST, 0}, {GREATEST - 1, GREATEST},
        };
        for (int[] span : spans) {
            shop.due("10 no such span", OUTSIDE, "comment", 1, span[0], span[1]);
        }
        Refusal empty = new Refusal(Runs.text(""));
        empty.due("10 no span in an empty text", OUTSIDE, "comment", 0, 0, 0);
        empty.due("10 no span in an empty text", OUTSIDE, "comment", 0, 0, 1);
        Refusal full = new Refusal(Runs.text(Shop.letters(80)));
        full.due("10 the span goes beyond a full text", OUTSIDE, "comment", 0, 0, 81);
        full.due("10 empty span behind a full text", OUTSIDE, "comment", 0, 80, 80);
    }

    private static void commentsInFull() {
        Refusal shop = new Refusal(Runs.text("abc").times(8, "comment", 0, 1, 2));
        shop.due("10 there are 8", STATE, "comment", 0, 1, 2);
        shop.due("10 span before 8", OUTSIDE, "comment", 0, 1, 1);
        shop.due("10 span before 8", OUTSIDE, "comment", 0, -1, 1);
        shop.due("10 span before 8", OUTSIDE, "comment", 0, 2, 4);
        shop.dueForEach(Refusal.outside(1), "10 document before span and 8", MISSING, "comment", 1, 1);
        shop.dueForEach(Refusal.outside(1), "10 document before 8", MISSING, "comment", 0, 1);
        Run allAnswered = Runs.text("abc").times(8, "comment", 0, 1, 2);
        for (int comment = 0; comment < 8; comment++) {
            allAnswered.call("answer", comment);
        }
        new Refusal(allAnswered).due("10 answered ones count", STATE, "comment", 0, 1, 2);
    }

    private static void answered() {
        Refusal shop = new Refusal(Runs.atWork());
        String[] names = {"answer", "spanFrom", "spanTo"};
        int[] promises = {11, 13, 14};
        for (int i = 0; i < names.length; i++) {
            shop.dueForEach(Refusal.outside(2), promises[i] + " no such comment", MISSING, names[i]);
            shop.due(promises[i] + " it is not open", STATE, names[i], 1);
        }
        shop.dueForEach(Refusal.outside(2), "12 no such comment", MISSING, "isOpen");
        Refusal full = new Refusal(Runs.text("abc").times(8, "comment", 0, 1, 2).call("answer", 7));
        full.dueForEach(Refusal.outside(8), "11 no such comment of 8", MISSING, "answer");
        full.due("11 the last is not open", STATE, "answer", 7);
    }

    private static void sign() {
        Refusal shop = new Refusal(Runs.atWork());
        shop.dueForEach(NO_DOCUMENTS, "15 no such document", MISSING, "sign");
        shop.due("15 a comment on it is open", STATE, "sign", 0);
        new Refusal(Runs.text("")).due("15 there is no text", STATE, "sign", 0);
        new Refusal(Runs.signed("ab").call("delete", 0, 0).call("delete", 0, 0))
                .due("15 there is no text any more", STATE, "sign", 0);
        new Refusal(Runs.signed("ab")).due("15 its version is that of its proof", STATE, "sign", 0);
        new Refusal(Runs.text("ab").call("comment", 0, 0, 1)).due("15 a comment on it is open", STATE, "sign", 0);
        new Refusal(Runs.signed("ab").call("comment", 0, 0, 1))
                .due("15 a comment is open, and the version is that of the proof", STATE, "sign", 0);
        new Refusal(Runs.text("ab").call("comment", 0, 0, 1).call("comment", 0, 0, 2).call("answer", 0))
                .due("15 one of two comments is open", STATE, "sign", 0);
    }

    private static void proofs() {
        Refusal shop = new Refusal(Runs.atWork());
        for (String name : new String[] {"signed", "sheets"}) {
            shop.dueForEach(NO_DOCUMENTS, "16 and 17 no such document", MISSING, name);
            shop.due("16 and 17 it has no proof", STATE, name, 1);
        }
        for (String name : new String[] {"pageOn", "shown", "shownByLog"}) {
            int end = name.equals("pageOn") ? 4 : 32;
            shop.dueForEach(NO_DOCUMENTS, "18 to 20 no such document", MISSING, name, 0, 0);
            shop.dueForEach(NO_DOCUMENTS, "18 to 20 document before sheet", MISSING, name, -1, end);
            shop.due("18 to 20 it has no proof", STATE, name, 1, 0, 0);
            for (int sheet : Refusal.outside(2)) {
                shop.due("18 to 20 no such sheet", OUTSIDE, name, 0, sheet, 0);
                shop.due("18 to 20 no such sheet nor position or index", OUTSIDE, name, 0, sheet, end);
            }
            for (int index : Refusal.outside(end)) {
                shop.due("18 to 20 no such position or index", OUTSIDE, name, 0, 0, index);
                shop.due("18 to 20 no such position or index", OUTSIDE, name, 0, 1, index);
            }
        }
    }

    private static void proofBeforeSheet() {
        Refusal shop = new Refusal(Runs.text("abc"));
        for (String name : new String[] {"pageOn", "shown", "shownByLog"}) {
            shop.dueForEach(Refusal.outside(1), "18 to 20 document before proof and sheet", MISSING, name, 9, 99);
            for (int sheet : Refusal.outside(1)) {
                shop.due("18 to 20 proof before sheet", STATE, name, 0, sheet, 0);
                shop.due("18 to 20 proof before sheet and index", STATE, name, 0, sheet, sheet);
            }
            shop.due("18 to 20 proof before position or index", STATE, name, 0, 0, 32);
            shop.due("18 to 20 proof before position or index", STATE, name, 0, 0, -1);
        }
    }
}
