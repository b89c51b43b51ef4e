/** Shops made ready for the tests. */
final class Shop {

    private Shop() {
    }

    static Proofpress withText(String text) {
        Proofpress p = new Proofpress();
        p.addDocument();
        type(p, 0, text);
        return p;
    }

    static Proofpress withSignedText(String text) {
        Proofpress p = withText(text);
        p.sign(0);
        return p;
    }

    /** A shop with a signed text, much stock, and one order due at hour 10. */
    static Proofpress withOrder(String text, int copies) {
        Proofpress p = withSignedText(text);
        p.supply(9999, 99);
        p.order(0, copies, 10);
        return p;
    }

    /** Puts the text behind that of the document. */
    static void type(Proofpress p, int document, String text) {
        int end = p.length(document);
        for (int i = 0; i < text.length(); i++) {
            p.insert(document, end + i, text.charAt(i));
        }
    }

    static void retype(Proofpress p, int document, String text) {
        for (int place = p.length(document) - 1; place >= 0; place--) {
            p.delete(document, place);
        }
        type(p, document, text);
    }

    /** Letters with a period of 23, so that neighbouring pages differ. */
    static String letters(int count) {
        StringBuilder text = new StringBuilder();
        for (int i = 0; i < count; i++) {
            text.append((char) ('a' + i % 23));
        }
        return text.toString();
    }

    static String textOf(Proofpress p, int document) {
        StringBuilder text = new StringBuilder();
        int length = p.length(document);
        for (int i = 0; i < length; i++) {
            text.appendCodePoint(p.codeAt(document, i));
        }
        return text.toString();
    }

    static void passTo(Proofpress p, int hour) {
        while (p.hour() < hour) {
            p.pass(Math.min(100, hour - p.hour()));
        }
    }

    /** Prints the sheet and lets it leave the press. */
    static void printThrough(Proofpress p, int order, int sheet) {
        p.pass(p.print(order, sheet) - p.hour());
    }
}
