import java.util.NoSuchElementException;

/** Promises 15 to 20: proofs, and what their sheets show. */
final class ProofsTest {

    private static final Class<NoSuchElementException> MISSING = NoSuchElementException.class;
    private static final Class<IndexOutOfBoundsException> OUTSIDE = IndexOutOfBoundsException.class;
    private static final Class<IllegalStateException> STATE = IllegalStateException.class;

    public static void main(String[] args) {
        signing();
        signingBarredByComments();
        signingWhenClosedOrOnPress();
        numbersOfSheets();
        readersWithoutProof();
        pages();
        shownOfOneSheet();
        shownOfThreeSheets();
        shownIsTheProofNotTheText();
        shownByLogFollowsEdits();
        shownByLogOfFullSheets();
        shownByLogOfTheLongestRun();
        everyLengthOnEverySheet();
        signedAtTheEdges();
        Check.end();
    }

    private static void signing() {
        Proofpress p = Shop.withText("");
        Check.thrown("15 no document", MISSING, () -> p.sign(1));
        Check.thrown("15 document -1", MISSING, () -> p.sign(-1));
        Check.thrown("15 no text", STATE, () -> p.sign(0));
        Shop.type(p, 0, "a");
        Check.due("15 one sheet", 1, () -> p.sign(0));
        Check.due("16 version", 1, () -> p.signed(0));
        Check.thrown("15 same version", STATE, () -> p.sign(0));
        Shop.type(p, 0, "b");
        Check.due("16 the version of the proof", 1, () -> p.signed(0));
        p.delete(0, 1);
        Check.due("15 same text, another version", 1, () -> p.sign(0));
        Check.due("16 the later version", 3, () -> p.signed(0));
        p.delete(0, 0);
        Check.thrown("15 no text any more", STATE, () -> p.sign(0));
        Check.due("16 the proof stays", 3, () -> p.signed(0));
        Check.due("9 a signature is no edit", 4, () -> p.version(0));
    }

    private static void signingBarredByComments() {
        Proofpress p = Shop.withText("ab");
        p.addDocument();
        Shop.type(p, 1, "ab");
        p.comment(1, 0, 1);
        Check.due("15 a comment on another document", 1, () -> p.sign(0));
        Check.thrown("15 an open comment", STATE, () -> p.sign(1));
        Check.thrown("16 is not signed", STATE, () -> p.signed(1));
        p.answer(0);
        Check.due("15 answered", 1, () -> p.sign(1));
    }

    private static void signingWhenClosedOrOnPress() {
        Proofpress p = Shop.withOrder("ab", 1);
        Shop.type(p, 0, "c");
        p.close(0, 0);
        p.print(0, 0);
        Check.due("15 neither closing nor the press bars it", 1, () -> p.sign(0));
        Check.due("16 the version", 3, () -> p.signed(0));
    }

    private static void numbersOfSheets() {
        int[] lengths = {1, 7, 8, 9, 31, 32, 33, 40, 64, 65, 72, 80};
        int[] sheets = {1, 1, 1, 1, 1, 1, 2, 2, 2, 3, 3, 3};
        for (int i = 0; i < lengths.length; i++) {
            Proofpress p = Shop.withText(Shop.letters(lengths[i]));
            Check.due("15 sheets of " + lengths[i], sheets[i], () -> p.sign(0));
            Check.due("17 sheets of " + lengths[i], sheets[i], () -> p.sheets(0));
        }
        Proofpress p = Shop.withSignedText(Shop.letters(32));
        Shop.type(p, 0, "x");
        Check.due("17 of the proof, not of the text", 1, () -> p.sheets(0));
        Check.due("15 more sheets now", 2, () -> p.sign(0));
        Check.due("17 more sheets now", 2, () -> p.sheets(0));
        p.delete(0, 0);
        Check.due("15 fewer sheets now", 1, () -> p.sign(0));
    }

    private static void readersWithoutProof() {
        Proofpress p = Shop.withText("ab");
        Check.thrown("16 no document", MISSING, () -> p.signed(1));
        Check.thrown("16 document -1", MISSING, () -> p.signed(-1));
        Check.thrown("16 no proof", STATE, () -> p.signed(0));
        Check.thrown("17 no document", MISSING, () -> p.sheets(1));
        Check.thrown("17 document -1", MISSING, () -> p.sheets(-1));
        Check.thrown("17 no proof", STATE, () -> p.sheets(0));
        Check.thrown("18 no document", MISSING, () -> p.pageOn(1, -1, -1));
        Check.thrown("18 no proof before sheet", STATE, () -> p.pageOn(0, -1, -1));
        Check.thrown("19 no document", MISSING, () -> p.shown(-1, -1, -1));
        Check.thrown("19 no proof before sheet", STATE, () -> p.shown(0, -1, -1));
        Check.thrown("20 no document", MISSING, () -> p.shownByLog(-1, -1, -1));
        Check.thrown("20 no proof before sheet", STATE, () -> p.shownByLog(0, -1, -1));
    }

    private static void pages() {
        int[] lengths = {5, 40, 80};
        int[][] pages = {
            {3, 0, 1, 2},
            {7, 0, 1, 6, 5, 2, 3, 4},
            {11, 0, 1, 10, 9, 2, 3, 8, 7, 4, 5, 6},
        };
        for (int i = 0; i < lengths.length; i++) {
            Proofpress p = Shop.withSignedText(Shop.letters(lengths[i]));
            for (int k = 0; k < pages[i].length; k++) {
                int sheet = k / 4;
                int position = k % 4;
                Check.due("18 page", pages[i][k], () -> p.pageOn(0, sheet, position));
            }
            int end = pages[i].length / 4;
            Check.thrown("18 no such sheet", OUTSIDE, () -> p.pageOn(0, end, 0));
            Check.thrown("18 sheet -1", OUTSIDE, () -> p.pageOn(0, -1, 0));
            Check.thrown("18 position -1", OUTSIDE, () -> p.pageOn(0, 0, -1));
            Check.thrown("18 position 4", OUTSIDE, () -> p.pageOn(0, 0, 4));
        }
    }

    private static void shownOfOneSheet() {
        Proofpress p = Shop.withSignedText("abcdefghij");
        checkSheet(p, 0, "........abcdefghij..............");
        Check.thrown("19 no such sheet", OUTSIDE, () -> p.shown(0, 1, 0));
        Check.thrown("19 sheet -1", OUTSIDE, () -> p.shown(0, -1, 0));
        Check.thrown("19 index -1", OUTSIDE, () -> p.shown(0, 0, -1));
        Check.thrown("19 index 32", OUTSIDE, () -> p.shown(0, 0, 32));
        Check.thrown("20 no such sheet", OUTSIDE, () -> p.shownByLog(0, 1, 0));
        Check.thrown("20 sheet -1", OUTSIDE, () -> p.shownByLog(0, -1, 0));
        Check.thrown("20 index -1", OUTSIDE, () -> p.shownByLog(0, 0, -1));
        Check.thrown("20 index 32", OUTSIDE, () -> p.shownByLog(0, 0, 32));
        Proofpress q = Shop.withSignedText(Shop.letters(30));
        checkSheet(q, 0, "bcdefg..abcdefghijklmnopqrstuvwa");
    }

    private static void shownOfThreeSheets() {
        Proofpress p = Shop.withText("");
        String pages = "aaaaaaaabbbbbbbbccccccccddddddddeeeeeeeeffffffffgggggggghhhhhhhhiii";
        Shop.type(p, 0, pages);
        p.sign(0);
        checkSheet(p, 0, "........aaaaaaaabbbbbbbb........");
        checkSheet(p, 1, "........ccccccccddddddddiii.....");
        checkSheet(p, 2, "hhhhhhhheeeeeeeeffffffffgggggggg");
        Check.thrown("19 no fourth sheet", OUTSIDE, () -> p.shown(0, 3, 0));
    }

    private static void shownIsTheProofNotTheText() {
        Proofpress p = Shop.withSignedText("ab");
        p.delete(0, 0);
        p.insert(0, 1, 128512);
        checkSheet(p, 0, "........ab......................");
        p.sign(0);
        Check.due("19 the next proof", 128512, () -> p.shown(0, 0, 9));
        Check.due("20 the next proof", 128512, () -> p.shownByLog(0, 0, 9));
        p.addDocument();
        Shop.type(p, 1, "xyz");
        p.sign(1);
        Check.due("19 another document", (int) 'x', () -> p.shown(1, 0, 8));
        Check.due("20 another document", (int) 'x', () -> p.shownByLog(1, 0, 8));
        Check.due("20 the first is as it was", (int) 'b', () -> p.shownByLog(0, 0, 8));
        Check.due("20 the first ends where it did", -1, () -> p.shownByLog(0, 0, 10));
    }

    /** Insertions and deletions before, at and behind each character, and refused edits between them. */
    private static void shownByLogFollowsEdits() {
        Proofpress p = Shop.withText("");
        StringBuilder text = new StringBuilder();
        for (int i = 0; i < 120; i++) {
            int size = text.length();
            if (size < 70 && i % 4 != 3) {
                int place = i * 7 % (size + 1);
                char code = (char) ('a' + i % 26);
                p.insert(0, place, code);
                text.insert(place, code);
            } else {
                int place = i * 5 % size;
                p.delete(0, place);
                text.deleteCharAt(place);
            }
            if (i % 6 == 0) {
                Check.thrown("4 a refused edit is not in the log", OUTSIDE, () -> p.delete(0, 80));
            }
            if (i % 40 == 39) {
                p.sign(0);
                checkAllSheetsByLog(p, text.toString());
            }
        }
    }

    private static void shownByLogOfFullSheets() {
        int[] lengths = {31, 32, 33, 63, 64, 65, 80};
        for (int length : lengths) {
            checkAllSheetsByLog(Shop.withSignedText(Shop.letters(length)), Shop.letters(length));
        }
    }

    /** An object is promised 512 calls: one adds the document, one signs it, one asks, and the others may all edit. */
    private static void shownByLogOfTheLongestRun() {
        Proofpress p = new Proofpress();
        p.addDocument();
        for (int i = 0; i < 79; i++) {
            p.insert(0, i, 'a');
        }
        for (int i = 0; i < 215; i++) {
            p.delete(0, 0);
            p.insert(0, 0, 128512 + i % 16);
        }
        p.sign(0);
        Check.due("20 the last of 509 edits", 128512 + 214 % 16, () -> p.shownByLog(0, 0, 8));
    }

    private static void checkAllSheetsByLog(Proofpress p, String text) {
        int sheets = (text.length() + 31) / 32;
        for (int sheet = 0; sheet < sheets; sheet++) {
            for (int index = 0; index < 32; index += 3) {
                int s = sheet;
                int i = index;
                int want = codeOn(text, sheets, sheet, index);
                Check.due("20 sheet " + s + " index " + i, want, () -> p.shownByLog(0, s, i));
            }
        }
    }

    /** What the document says of pages and sheets, once more. */
    private static int codeOn(String text, int sheets, int sheet, int index) {
        int n = 4 * sheets;
        int[] pages = {n - 1 - 2 * sheet, 2 * sheet, 2 * sheet + 1, n - 2 - 2 * sheet};
        int place = 8 * pages[index / 8] + index % 8;
        return place < text.length() ? text.charAt(place) : -1;
    }

    /** Pages that are full, that have as many characters as there are, and that are empty, on each sheet. */
    private static void everyLengthOnEverySheet() {
        for (int length = 1; length <= 80; length++) {
            String text = Shop.letters(length);
            int sheets = (length + 31) / 32;
            Proofpress p = Shop.withText(text);
            Check.due("15 sheets of " + length, sheets, () -> p.sign(0));
            for (int i = 0; i < 32 * sheets; i++) {
                int sheet = i / 32;
                int index = i % 32;
                int want = codeOn(text, sheets, sheet, index);
                Check.due("19 of " + length + " sheet " + sheet + " index " + index, want,
                        () -> p.shown(0, sheet, index));
                Check.due("20 of " + length + " sheet " + sheet + " index " + index, want,
                        () -> p.shownByLog(0, sheet, index));
            }
        }
    }

    private static void signedAtTheEdges() {
        Proofpress p = Shop.withText("");
        p.insert(0, 0, 'a');
        p.delete(0, 0);
        Check.thrown("15 a text that is empty again", STATE, () -> p.sign(0));
        p.insert(0, 0, ' ');
        Check.due("15 a single blank is a text", 1, () -> p.sign(0));
        Check.due("16 its version", 3, () -> p.signed(0));
        Check.due("19 a blank is a character", 32, () -> p.shown(0, 0, 8));
        Check.due("19 and nothing is behind it", -1, () -> p.shown(0, 0, 9));
        Check.due("19 nor at the last index", -1, () -> p.shown(0, 0, 31));
        Proofpress full = new Proofpress();
        for (int document = 0; document < 3; document++) {
            full.addDocument();
            Shop.type(full, document, Shop.letters(80 - document));
        }
        Check.due("15 the last document", 3, () -> full.sign(2));
        Check.due("16 of its own version", 78, () -> full.signed(2));
        Check.thrown("16 the others have no proof", STATE, () -> full.signed(0));
        Check.due("15 the first document", 3, () -> full.sign(0));
        Check.thrown("15 the same version twice", STATE, () -> full.sign(0));
    }

    /** A dot stands for no character. */
    private static void checkSheet(Proofpress p, int sheet, String want) {
        for (int i = 0; i < 32; i++) {
            int index = i;
            int code = want.charAt(i) == '.' ? -1 : want.charAt(i);
            Check.due("19 sheet " + sheet + " index " + i, code, () -> p.shown(0, sheet, index));
            Check.due("20 sheet " + sheet + " index " + i, code, () -> p.shownByLog(0, sheet, index));
        }
    }
}
