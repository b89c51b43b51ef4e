/** Runs that bring a shop into the states in which calls are refused. */
final class Runs {

    private Runs() {
    }

    static Run text(String text) {
        return new Run().call("addDocument").type(0, 0, text);
    }

    static Run signed(String text) {
        return text(text).call("sign", 0);
    }

    /** One order of 10 copies, due at hour 5, with just the paper that it needs and the plates. */
    static Run ordered(String text, int sheets, int plates) {
        return signed(text).call("supply", 10 * sheets, plates).call("order", 0, 10, 5);
    }

    /** One order of one sheet, which is good. */
    static Run printed() {
        return ordered("abc", 1, 1).call("print", 0, 0).call("pass", 1);
    }

    /**
     * Two documents, two comments and two orders at hour 4. The document 0 has 41 characters, a proof of 40 on two
     * sheets, and the comment 0 on the places 2 to 4; the comment 1 is answered. The document 1 has "xyz" and no
     * proof. Of the order 0 the sheet 0 is good and the sheet 1 on the press till hour 5; the order 1 waits.
     */
    static Run atWork() {
        return signed(Shop.letters(40)).call("supply", 1000, 20)
                .call("order", 0, 120, 3).call("order", 0, 30, 7)
                .call("print", 0, 0).call("pass", 3)
                .call("comment", 0, 2, 5).call("comment", 0, 10, 12).call("answer", 1)
                .call("addDocument").type(1, 0, "xyz").call("insert", 0, 40, 128512)
                .call("print", 0, 1).call("pass", 1);
    }
}
