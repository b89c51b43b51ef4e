/** Promises 41 and 42: goodShare and meanLength. */
final class SharesTest {

    public static void main(String[] args) {
        shares();
        sharesOfSeveralOrders();
        means();
        sharesOfAllOrders();
        meansAtTheirEnds();
        Check.end();
    }

    private static void shares() {
        Proofpress p = Shop.withSignedText(Shop.letters(80));
        Check.thrown("41 no orders", ArithmeticException.class, p::goodShare);
        p.supply(9999, 99);
        p.order(0, 1, 5);
        Check.due("41 none", 0f, p::goodShare);
        p.print(0, 0);
        Check.due("41 on the press is not good", 0f, p::goodShare);
        p.pass(1);
        Check.due("41 one of three", 1f / 3f, p::goodShare);
        Shop.printThrough(p, 0, 1);
        Check.due("41 two of three", 2f / 3f, p::goodShare);
        Shop.printThrough(p, 0, 2);
        Check.due("41 all", 1f, p::goodShare);
        p.delete(0, 79);
        p.sign(0);
        Check.due("41 one is stale", 2f / 3f, p::goodShare);
    }

    private static void sharesOfSeveralOrders() {
        Proofpress p = Shop.withOrder(Shop.letters(80), 1);
        p.addDocument();
        Shop.type(p, 1, Shop.letters(40));
        p.sign(1);
        p.order(1, 1, 5);
        p.order(1, 1, 5);
        Shop.printThrough(p, 1, 1);
        Check.due("41 one of seven", 1f / 7f, p::goodShare);
        Shop.printThrough(p, 0, 0);
        Shop.printThrough(p, 2, 0);
        Check.due("41 three of seven", 3f / 7f, p::goodShare);
    }

    private static void means() {
        Proofpress p = new Proofpress();
        Check.thrown("42 no documents", ArithmeticException.class, p::meanLength);
        p.addDocument();
        Check.due("42 no text", 0.0, p::meanLength);
        Shop.type(p, 0, "abc");
        Check.due("42 one document", 3.0, p::meanLength);
        p.addDocument();
        Check.due("42 two documents", 1.5, p::meanLength);
        p.addDocument();
        Shop.type(p, 2, "xy");
        Check.due("42 three documents", 5.0 / 3.0, p::meanLength);
        p.insert(1, 0, 128512);
        Check.due("42 symbols count as one", 2.0, p::meanLength);
        p.sign(0);
        p.delete(0, 0);
        Check.due("42 of the texts, not of the proofs", 5.0 / 3.0, p::meanLength);
    }

    /** Six orders of three sheets: from none of 18 to all of them. */
    private static void sharesOfAllOrders() {
        Proofpress p = Shop.withSignedText(Shop.letters(80));
        p.supply(9999, 99);
        for (int i = 0; i < 6; i++) {
            p.order(0, 1, 5);
        }
        for (int i = 0; i < 18; i++) {
            float before = (float) i / 18f;
            Check.due("41 " + i + " of 18", before, p::goodShare);
            p.print(i / 3, i % 3);
            Check.due("41 " + i + " of 18 and one on the press", before, p::goodShare);
            p.pass(1);
        }
        Check.due("41 all", 1f, p::goodShare);
        Shop.retype(p, 0, "x");
        Check.due("41 before it is signed", 1f, p::goodShare);
        p.sign(0);
        Check.due("41 none, and of six sheets", 0f, p::goodShare);
        p.print(5, 0);
        p.pass(1);
        Check.due("41 one of six", 1f / 6f, p::goodShare);
    }

    private static void meansAtTheirEnds() {
        Proofpress p = new Proofpress();
        for (int document = 0; document < 3; document++) {
            p.addDocument();
            Shop.type(p, document, Shop.letters(80));
            Check.due("42 full documents", 80.0, p::meanLength);
        }
        p.delete(2, 0);
        Check.due("42 one character less", 239.0 / 3.0, p::meanLength);
        Proofpress q = new Proofpress();
        for (int document = 0; document < 3; document++) {
            q.addDocument();
            Check.due("42 empty documents", 0.0, q::meanLength);
        }
        q.insert(1, 0, 'a');
        Check.due("42 one character", 1.0 / 3.0, q::meanLength);
    }
}
