import java.util.HashMap;
import java.util.Map;

/**
 * The sentence of the Terms: a late edit that is signed makes stale only the sheets that show it. Held for each length
 * of a text, each place of it, and each pair of lengths; what each sheet shows is found here once more from the
 * document.
 */
final class LateEditsTest {

    private static final int MOST = 80;
    private static final int SYMBOL = 128512;

    public static void main(String[] args) {
        replacedCharacterAtEachPlace();
        replacedBySameCharacter();
        deletedAndInsertedCharacters();
        eachLengthAfterEachOther(Shop.letters(MOST));
        eachLengthAfterEachOther("a".repeat(MOST));
        eachLengthAfterEachOther("ab".repeat(MOST / 2));
        pagesOfOtherNumbersWithTheSameCharacters();
        signedWhileAnotherSheetIsOnThePress();
        ordersOfOtherDocuments();
        Check.end();
    }

    /** Exactly one sheet shows a place, whatever the length. */
    private static void replacedCharacterAtEachPlace() {
        for (int length = 1; length <= MOST; length++) {
            for (int place = 0; place < length; place++) {
                Proofpress p = printed(Shop.letters(length));
                p.delete(0, place);
                p.insert(0, place, SYMBOL);
                String what = "27 place " + place + " of " + length;
                Check.due(what + " is not signed", "p".repeat(sheetsOf(length)), () -> states(p, 0));
                p.sign(0);
                Check.due(what, staleAt(length, place), () -> states(p, 0));
            }
        }
    }

    private static void replacedBySameCharacter() {
        for (int length = 1; length <= MOST; length++) {
            Proofpress p = printed(Shop.letters(length));
            int code = p.delete(0, length - 1);
            p.insert(0, length - 1, code);
            p.sign(0);
            Check.due("27 the same character of " + length, "p".repeat(sheetsOf(length)), () -> states(p, 0));
            Check.due("28 it is done", true, () -> p.isDone(0));
        }
    }

    /** Characters behind the edit move: each sheet that shows others now is stale, and no other one. */
    private static void deletedAndInsertedCharacters() {
        for (int place = 0; place < MOST; place++) {
            String before = Shop.letters(MOST);
            String after = before.substring(0, place) + before.substring(place + 1);
            Proofpress p = printed(before);
            p.delete(0, place);
            p.sign(0);
            Check.due("27 without place " + place, statesAfter(before, after), () -> states(p, 0));
            p.insert(0, place, before.charAt(place));
            p.sign(0);
            Check.due("27 with place " + place + " again", "ppp", () -> states(p, 0));
        }
    }

    /** A text of one length is printed, becomes one of another length, is signed and printed again. */
    private static void eachLengthAfterEachOther(String letters) {
        for (int from = 1; from <= MOST; from++) {
            for (int to = 1; to <= MOST; to++) {
                if (from != to) {
                    checkLengths(letters.substring(0, from), letters.substring(0, to));
                }
            }
        }
    }

    private static void checkLengths(String before, String after) {
        String what = " of " + before.length() + " characters, then " + after.length();
        Proofpress p = printed(before);
        for (int place = before.length() - 1; place >= after.length(); place--) {
            p.delete(0, place);
        }
        if (after.length() > before.length()) {
            Shop.type(p, 0, after.substring(before.length()));
        }
        p.sign(0);
        String states = statesAfter(before, after);
        Check.due("27 states" + what, states, () -> states(p, 0));
        Check.due("25 needs" + what, count(states, 's') + count(states, 'w'), () -> p.needs(0));
        Map<Integer, String> plates = platesOf(before);
        int taken = plates.size();
        for (int sheet = 0; sheet < states.length(); sheet++) {
            if (states.charAt(sheet) != 'p') {
                Shop.printThrough(p, 0, sheet);
                String plate = plateOf(after, sheet);
                taken += plate.equals(plates.get(sheet)) ? 0 : 1;
            }
        }
        Check.due("38 plates" + what, taken, () -> p.platesFor(0));
        Check.due("39 wasted" + what, count(states, 's'), () -> p.wasted(0));
        Check.due("28 done" + what, true, () -> p.isDone(0));
    }

    /** The empty pages of a sheet have other numbers when the proof has more sheets: that alone is no late edit. */
    private static void pagesOfOtherNumbersWithTheSameCharacters() {
        Proofpress p = printed(Shop.letters(9));
        Check.due("18 an empty page", 3, () -> p.pageOn(0, 0, 0));
        Shop.type(p, 0, Shop.letters(7));
        p.sign(0);
        Check.due("27 page 1 has more characters", "s", () -> states(p, 0));
        Shop.printThrough(p, 0, 0);
        Shop.type(p, 0, Shop.letters(32));
        p.sign(0);
        Check.due("18 an empty page with another number", 7, () -> p.pageOn(0, 0, 0));
        Check.due("27 of 48 characters", "pw", () -> states(p, 0));
        Shop.printThrough(p, 0, 1);
        Shop.type(p, 0, "x".repeat(32));
        p.sign(0);
        Check.due("18 an empty page with a third number", 11, () -> p.pageOn(0, 0, 0));
        Check.due("27 of 80 characters", "psw", () -> states(p, 0));
        Check.due("38 no sheet was printed in vain", 3, () -> p.platesFor(0));
    }

    private static void signedWhileAnotherSheetIsOnThePress() {
        Proofpress p = printed(Shop.letters(MOST));
        p.order(0, 1, 5);
        p.print(1, 2);
        // Sheet 2 shows the pages 7, 4, 5 and 6, and locks them and those ahead: 8 and 9 are free.
        Check.due("5 page 7 is locked", 'l', () -> p.bar(0, 63, false));
        p.delete(0, 64);
        p.sign(0);
        Check.due("27 the late edit is on sheet 1", "psp", () -> states(p, 0));
        Check.due("27 the other order waits", "wwo", () -> states(p, 1));
        p.pass(1);
        Check.due("27 what was on the press is good", "wwp", () -> states(p, 1));
    }

    private static void ordersOfOtherDocuments() {
        Proofpress p = printed("ab");
        p.addDocument();
        Shop.type(p, 1, "ab");
        p.sign(1);
        p.order(1, 1, 5);
        Shop.printThrough(p, 1, 0);
        p.insert(1, 0, 'x');
        p.sign(1);
        Check.due("27 the other document", 's', () -> p.stateOf(1, 0));
        Check.due("27 this document", 'p', () -> p.stateOf(0, 0));
    }

    /** A shop with an order of one copy, all of whose sheets are good. */
    private static Proofpress printed(String text) {
        Proofpress p = Shop.withOrder(text, 1);
        for (int sheet = 0; sheet < sheetsOf(text.length()); sheet++) {
            Shop.printThrough(p, 0, sheet);
        }
        return p;
    }

    private static String states(Proofpress p, int order) {
        StringBuilder states = new StringBuilder();
        for (int sheet = 0; sheet < p.sheets(0); sheet++) {
            states.append(p.stateOf(order, sheet));
        }
        return states.toString();
    }

    private static String staleAt(int length, int place) {
        StringBuilder states = new StringBuilder();
        for (int sheet = 0; sheet < sheetsOf(length); sheet++) {
            boolean shows = false;
            for (int position = 0; position < 4; position++) {
                shows |= pageOn(length, sheet, position) == place / 8;
            }
            states.append(shows ? 's' : 'p');
        }
        return states.toString();
    }

    private static String statesAfter(String before, String after) {
        StringBuilder states = new StringBuilder();
        for (int sheet = 0; sheet < sheetsOf(after.length()); sheet++) {
            if (sheet >= sheetsOf(before.length())) {
                states.append('w');
            } else {
                states.append(showsTheSame(before, after, sheet) ? 'p' : 's');
            }
        }
        return states.toString();
    }

    private static boolean showsTheSame(String before, String after, int sheet) {
        for (int position = 0; position < 4; position++) {
            String page = pageOf(before, pageOn(before.length(), sheet, position));
            if (!page.equals(pageOf(after, pageOn(after.length(), sheet, position)))) {
                return false;
            }
        }
        return true;
    }

    private static int sheetsOf(int length) {
        return length <= 32 ? 1 : length <= 64 ? 2 : 3;
    }

    private static int pageOn(int length, int sheet, int position) {
        int n = 4 * sheetsOf(length);
        int[] pages = {n - 1 - 2 * sheet, 2 * sheet, 2 * sheet + 1, n - 2 - 2 * sheet};
        return pages[position];
    }

    private static String pageOf(String text, int page) {
        int from = Math.min(8 * page, text.length());
        return text.substring(from, Math.min(from + 8, text.length()));
    }

    private static Map<Integer, String> platesOf(String text) {
        Map<Integer, String> plates = new HashMap<>();
        for (int sheet = 0; sheet < sheetsOf(text.length()); sheet++) {
            plates.put(sheet, plateOf(text, sheet));
        }
        return plates;
    }

    private static String plateOf(String text, int sheet) {
        StringBuilder plate = new StringBuilder();
        for (int position = 0; position < 4; position++) {
            plate.append(pageOf(text, pageOn(text.length(), sheet, position)));
        }
        return plate.reverse().toString();
    }

    private static int count(String states, char state) {
        int count = 0;
        for (int i = 0; i < states.length(); i++) {
            count += states.charAt(i) == state ? 1 : 0;
        }
        return count;
    }
}
