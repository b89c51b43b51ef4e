import java.util.NoSuchElementException;

/** Promises 32 to 40: the press, the hours, the plates, and what an order takes. */
final class PrintingTest {

    private static final Class<NoSuchElementException> MISSING = NoSuchElementException.class;
    private static final Class<IndexOutOfBoundsException> OUTSIDE = IndexOutOfBoundsException.class;
    private static final Class<IllegalArgumentException> UNFIT = IllegalArgumentException.class;
    private static final Class<IllegalStateException> STATE = IllegalStateException.class;
    private static final Class<UnsupportedOperationException> NO_STOCK = UnsupportedOperationException.class;

    public static void main(String[] args) {
        hoursOnPress();
        printExceptions();
        printTakesStock();
        stockRunsOut();
        pressOfSeveralOrders();
        passing();
        pressBehindTheLastHour();
        plates();
        platesOfSeveralPages();
        plateIsThatOfThePrint();
        plateExceptions();
        accounts();
        wasteOfSheetsThatAreGone();
        smallestAndGreatestPlate();
        hoursOfThePressAtTheirEnds();
        printedAgainAndAgain();
        emptyPress();
        pressKeepsItsOwnProof();
        platesOfOtherSheetsDoNotCount();
        onlyTheLastPlateCounts();
        Check.end();
    }

    private static void hoursOnPress() {
        int[] copies = {1, 99, 100, 199, 200, 499, 500};
        int[] hours = {1, 1, 2, 2, 3, 5, 6};
        for (int i = 0; i < copies.length; i++) {
            Proofpress p = Shop.withOrder("ab", copies[i]);
            p.pass(7);
            int leaves = 7 + hours[i];
            Check.due("32 hours of " + copies[i], leaves, () -> p.print(0, 0));
            if (hours[i] > 1) {
                Check.due("34 not over", 0, () -> p.pass(leaves - 8));
            }
            Check.due("33 on the press", 0, p::onPress);
            Check.due("34 over", 1, () -> p.pass(1));
            Check.due("33 empty", -1, p::onPress);
            Check.due("27 good", 'p', () -> p.stateOf(0, 0));
            Check.due("34 nothing more", 0, () -> p.pass(1));
        }
    }

    private static void printExceptions() {
        Proofpress p = Shop.withSignedText(Shop.letters(40));
        Check.thrown("32 no order", MISSING, () -> p.print(0, 0));
        p.supply(2, 1);
        p.order(0, 1, 5);
        Check.thrown("32 order 1", MISSING, () -> p.print(1, 9));
        Check.thrown("32 order -1", MISSING, () -> p.print(-1, -1));
        Check.thrown("32 sheet 2", OUTSIDE, () -> p.print(0, 2));
        Check.thrown("32 sheet -1", OUTSIDE, () -> p.print(0, -1));
        p.print(0, 0);
        Check.thrown("32 on the press", STATE, () -> p.print(0, 0));
        Check.thrown("32 the press before the plate", STATE, () -> p.print(0, 1));
        Check.thrown("32 the sheet before the press", OUTSIDE, () -> p.print(0, 2));
        p.pass(1);
        Check.thrown("32 good", STATE, () -> p.print(0, 0));
        Check.thrown("32 no plate", NO_STOCK, () -> p.print(0, 1));
    }

    private static void printTakesStock() {
        Proofpress p = Shop.withOrder(Shop.letters(40), 30);
        p.print(0, 1);
        Check.due("22 paper", 9969, p::paper);
        Check.due("23 plates", 98, p::plates);
        Check.due("26 free", 9939, p::freePaper);
        p.pass(1);
        Check.due("22 nothing more when it leaves", 9969, p::paper);
        Check.due("23 nothing more when it leaves", 98, p::plates);
        p.insert(0, 40, 'x');
        p.sign(0);
        p.print(0, 1);
        Check.due("22 paper again", 9939, p::paper);
        Check.due("23 another plate", 97, p::plates);
    }

    private static void stockRunsOut() {
        Proofpress p = Shop.withSignedText("ab");
        p.supply(20, 2);
        p.order(0, 10, 5);
        Shop.printThrough(p, 0, 0);
        p.order(0, 10, 5);
        p.insert(0, 0, 'x');
        p.sign(0);
        Shop.printThrough(p, 1, 0);
        Check.thrown("32 no paper", NO_STOCK, () -> p.print(0, 0));
        p.supply(9, 1);
        Check.thrown("32 not enough paper", NO_STOCK, () -> p.print(0, 0));
        Check.due("22 nothing was taken", 9, p::paper);
        Check.due("23 nothing was taken", 1, p::plates);
        Check.due("38 nothing was taken", 1, () -> p.platesFor(0));
        Check.due("40 nothing was taken", 50L, () -> p.cost(0));
        p.supply(1, 0);
        Check.due("32 just enough", 3, () -> p.print(0, 0));
        Check.due("22 none is left", 0, p::paper);
        Check.due("23 none is left", 0, p::plates);
    }

    private static void pressOfSeveralOrders() {
        Proofpress p = Shop.withOrder("ab", 150);
        p.order(0, 1, 5);
        Check.due("33 empty", -1, p::onPress);
        p.print(1, 0);
        Check.due("33 the second", 1, p::onPress);
        Check.thrown("32 one press for all", STATE, () -> p.print(0, 0));
        p.pass(1);
        p.print(0, 0);
        Check.due("33 the first", 0, p::onPress);
        p.pass(1);
        Check.due("33 still", 0, p::onPress);
        Check.due("34 it leaves", 1, () -> p.pass(100));
        Check.due("33 empty again", -1, p::onPress);
    }

    private static void passing() {
        Proofpress p = new Proofpress();
        Check.due("35 at first", 0, p::hour);
        Check.due("34 an hour", 0, () -> p.pass(1));
        Check.due("35 an hour", 1, p::hour);
        Check.due("34 a hundred", 0, () -> p.pass(100));
        Check.due("35 a hundred", 101, p::hour);
        Check.thrown("34 none", UNFIT, () -> p.pass(0));
        Check.thrown("34 -1", UNFIT, () -> p.pass(-1));
        Check.thrown("34 101", UNFIT, () -> p.pass(101));
        Check.thrown("34 huge", UNFIT, () -> p.pass(Integer.MAX_VALUE));
        Shop.passTo(p, 990);
        Check.thrown("34 beyond the last", STATE, () -> p.pass(10));
        Check.thrown("34 range before the last", UNFIT, () -> p.pass(101));
        Check.due("35 wrong calls let none pass", 990, p::hour);
        Check.due("34 to the last", 0, () -> p.pass(9));
        Check.due("35 the last", 999, p::hour);
        Check.thrown("34 behind the last", STATE, () -> p.pass(1));
    }

    private static void pressBehindTheLastHour() {
        Proofpress p = Shop.withOrder("ab", 500);
        Shop.passTo(p, 990);
        Check.due("32 leaves at 996", 996, () -> p.print(0, 0));
        Check.due("34 leaves", 1, () -> p.pass(9));
        p.order(0, 500, 999);
        Check.due("32 leaves behind the last hour", 1005, () -> p.print(1, 0));
        Check.thrown("34 no hours are left", STATE, () -> p.pass(1));
        Check.due("33 it stays", 1, p::onPress);
    }

    private static void plates() {
        Proofpress p = Shop.withOrder("abc", 1);
        Check.thrown("36 never had one", STATE, () -> p.plateLength(0, 0));
        Check.thrown("37 never had one", STATE, () -> p.plateAt(0, 0, 0));
        p.print(0, 0);
        Check.due("37 on the press", "cba", () -> plateOf(p, 0, 0));
        p.pass(1);
        Check.due("37 has left", "cba", () -> plateOf(p, 0, 0));
        Shop.retype(p, 0, "xy");
        p.sign(0);
        Check.due("37 the last one is kept", "cba", () -> plateOf(p, 0, 0));
        p.print(0, 0);
        Check.due("37 a shorter one", "yx", () -> plateOf(p, 0, 0));
        Check.thrown("37 behind the shorter one", STATE, () -> p.plateAt(0, 0, 2));
    }

    private static void platesOfSeveralPages() {
        // The only sheet shows the pages 3, 0, 1, 2; the places of 30 characters are 24 to 29, then 0 to 23.
        String text = Shop.letters(30);
        Proofpress p = Shop.withOrder(text, 1);
        p.print(0, 0);
        Check.due("36 length", 30, () -> p.plateLength(0, 0));
        String want = new StringBuilder(text.substring(24) + text.substring(0, 24)).reverse().toString();
        Check.due("37 mirrored", want, () -> plateOf(p, 0, 0));
        // The sheets of 67 characters show 11, 0, 1, 10, then 9, 2, 3, 8, then 7, 4, 5, 6.
        String longText = Shop.letters(67);
        Proofpress q = Shop.withOrder(longText, 1);
        q.print(0, 1);
        String second = new StringBuilder(longText.substring(16, 32) + longText.substring(64)).reverse().toString();
        Check.due("37 of the second sheet", second, () -> plateOf(q, 0, 1));
        Check.thrown("36 the first never had one", STATE, () -> q.plateLength(0, 0));
        q.pass(1);
        q.print(0, 2);
        String third = new StringBuilder(longText.substring(56, 64) + longText.substring(32, 56)).reverse().toString();
        Check.due("37 of the third sheet", third, () -> plateOf(q, 0, 2));
        Check.due("37 the second has its own", second, () -> plateOf(q, 0, 1));
    }

    private static void plateIsThatOfThePrint() {
        Proofpress p = Shop.withOrder("ab", 1);
        Shop.retype(p, 0, "yz");
        p.print(0, 0);
        p.sign(0);
        Check.due("37 the plate of the earlier proof", "ba", () -> plateOf(p, 0, 0));
        p.pass(1);
        Check.due("27 printed with the earlier proof", 's', () -> p.stateOf(0, 0));
        p.order(0, 1, 5);
        p.print(1, 0);
        Check.due("37 each order has its own", "zy", () -> plateOf(p, 1, 0));
        Check.due("37 the first keeps its own", "ba", () -> plateOf(p, 0, 0));
    }

    private static void plateExceptions() {
        Proofpress p = Shop.withOrder(Shop.letters(40), 1);
        p.print(0, 0);
        Check.thrown("36 no order", MISSING, () -> p.plateLength(1, 9));
        Check.thrown("36 order -1", MISSING, () -> p.plateLength(-1, 0));
        Check.thrown("36 no sheet", OUTSIDE, () -> p.plateLength(0, 2));
        Check.thrown("36 sheet -1", OUTSIDE, () -> p.plateLength(0, -1));
        Check.thrown("37 no order", MISSING, () -> p.plateAt(1, 9, 99));
        Check.thrown("37 order -1", MISSING, () -> p.plateAt(-1, 0, 0));
        Check.thrown("37 no sheet", OUTSIDE, () -> p.plateAt(0, 2, 99));
        Check.thrown("37 sheet -1", OUTSIDE, () -> p.plateAt(0, -1, 0));
        Check.thrown("37 no plate", STATE, () -> p.plateAt(0, 1, 0));
        Check.thrown("37 index -1", STATE, () -> p.plateAt(0, 0, -1));
        Check.thrown("37 index 16", STATE, () -> p.plateAt(0, 0, 16));
        Check.due("37 index 15", (int) 'a', () -> p.plateAt(0, 0, 15));
        // The proof becomes shorter: what the order had for its second sheet can't be asked for.
        p.pass(1);
        Shop.printThrough(p, 0, 1);
        Check.due("36 the second sheet", 24, () -> p.plateLength(0, 1));
        for (int i = 0; i < 8; i++) {
            p.delete(0, 0);
        }
        p.sign(0);
        Check.thrown("36 has no such sheet now", OUTSIDE, () -> p.plateLength(0, 1));
    }

    private static void accounts() {
        Proofpress p = Shop.withOrder(Shop.letters(40), 120);
        p.order(0, 1, 5);
        checkAccounts(p, 0, 0, 0L, "nothing yet");
        p.print(0, 0);
        checkAccounts(p, 1, 0, 270L, "the first sheet on the press");
        p.pass(2);
        Shop.printThrough(p, 0, 1);
        checkAccounts(p, 2, 0, 540L, "both sheets");
        p.insert(0, 40, 'x');
        p.sign(0);
        checkAccounts(p, 2, 0, 540L, "the second is stale");
        p.print(0, 1);
        checkAccounts(p, 3, 0, 810L, "the second is on the press again");
        p.pass(2);
        checkAccounts(p, 3, 120, 810L, "what was printed first is wasted");
        p.delete(0, 0);
        p.sign(0);
        Shop.printThrough(p, 0, 0);
        Shop.printThrough(p, 0, 1);
        checkAccounts(p, 5, 360, 1350L, "all again");
        Check.due("38 the other order", 0, () -> p.platesFor(1));
        Check.due("39 the other order", 0, () -> p.wasted(1));
        Check.due("40 the other order", 0L, () -> p.cost(1));
        Check.thrown("38 no order", MISSING, () -> p.platesFor(2));
        Check.thrown("38 order -1", MISSING, () -> p.platesFor(-1));
        Check.thrown("39 no order", MISSING, () -> p.wasted(2));
        Check.thrown("39 order -1", MISSING, () -> p.wasted(-1));
        Check.thrown("40 no order", MISSING, () -> p.cost(2));
        Check.thrown("40 order -1", MISSING, () -> p.cost(-1));
    }

    private static void checkAccounts(Proofpress p, int plates, int wasted, long cost, String what) {
        Check.due("38 " + what, plates, () -> p.platesFor(0));
        Check.due("39 " + what, wasted, () -> p.wasted(0));
        Check.due("40 " + what, cost, () -> p.cost(0));
    }

    private static void wasteOfSheetsThatAreGone() {
        Proofpress p = Shop.withOrder(Shop.letters(33), 10);
        Shop.printThrough(p, 0, 1);
        p.insert(0, 33, 'x');
        p.sign(0);
        Shop.printThrough(p, 0, 1);
        Check.due("39 the first print", 10, () -> p.wasted(0));
        p.delete(0, 0);
        p.delete(0, 0);
        p.sign(0);
        Check.due("17 one sheet", 1, () -> p.sheets(0));
        Check.due("39 stays wasted, and the last print is not", 10, () -> p.wasted(0));
        Check.due("40 stays as well", 100L, () -> p.cost(0));
        Check.due("38 stays as well", 2, () -> p.platesFor(0));
    }

    /** A sheet shows at least one character and at most 32. */
    private static void smallestAndGreatestPlate() {
        Proofpress one = Shop.withText("");
        one.insert(0, 0, 128527);
        one.sign(0);
        one.supply(1, 1);
        one.order(0, 1, 0);
        one.print(0, 0);
        Check.due("36 one character", 1, () -> one.plateLength(0, 0));
        Check.due("37 a symbol is one character", 128527, () -> one.plateAt(0, 0, 0));
        Check.thrown("37 and no more", STATE, () -> one.plateAt(0, 0, 1));
        String text = Shop.letters(80);
        Proofpress full = Shop.withOrder(text, 1);
        full.print(0, 2);
        Check.due("36 a full sheet", 32, () -> full.plateLength(0, 2));
        String want = new StringBuilder(text.substring(56, 64) + text.substring(32, 56)).reverse().toString();
        Check.due("37 a full sheet, mirrored", want, () -> plateOf(full, 0, 2));
        Check.thrown("37 behind a full sheet", STATE, () -> full.plateAt(0, 2, 32));
    }

    /** A sheet leaves the press at its hour, not before, also when that is the last hour. */
    private static void hoursOfThePressAtTheirEnds() {
        Proofpress p = Shop.withOrder("ab", 500);
        Shop.passTo(p, 993);
        Check.due("32 the last hour", 999, () -> p.print(0, 0));
        Check.due("34 an hour before", 0, () -> p.pass(5));
        Check.due("33 it is there", 0, p::onPress);
        Check.due("27 it is there", 'o', () -> p.stateOf(0, 0));
        Check.due("34 the last hour", 1, () -> p.pass(1));
        Check.due("33 the press is empty", -1, p::onPress);
        Check.due("27 it is printed", 'p', () -> p.stateOf(0, 0));
        p.order(0, 1, 0);
        Check.due("32 behind the last hour", 1000, () -> p.print(1, 0));
        Check.due("27 on the press for ever", 'o', () -> p.stateOf(1, 0));
        Proofpress q = Shop.withOrder("ab", 99);
        Check.due("32 from hour 0", 1, () -> q.print(0, 0));
        Check.due("34 the most hours at once", 1, () -> q.pass(100));
        Check.due("35 all of them", 100, q::hour);
        q.insert(0, 0, 'x');
        q.sign(0);
        Check.due("32 from hour 100", 101, () -> q.print(0, 0));
        Check.due("34 just its hour", 1, () -> q.pass(1));
    }

    private static void printedAgainAndAgain() {
        Proofpress p = Shop.withOrder("ab", 500);
        for (int i = 0; i < 5; i++) {
            int before = i;
            Shop.printThrough(p, 0, 0);
            Check.due("39 all but the last", 500 * before, () -> p.wasted(0));
            Check.due("38 a plate each time", before + 1, () -> p.platesFor(0));
            Check.due("40 all of them", 1030L * (before + 1), () -> p.cost(0));
            Check.due("22 the stock", 9999 - 500 * (before + 1), p::paper);
            Check.due("23 the stock", 98 - before, p::plates);
            p.insert(0, 0, 'a' + i);
            p.sign(0);
        }
    }

    private static void emptyPress() {
        Proofpress p = new Proofpress();
        Check.due("33 no order has number -1", -1, p::onPress);
        Check.due("34 nothing leaves an empty press", 0, () -> p.pass(1));
        Proofpress q = Shop.withOrder("ab", 1);
        Check.due("33 an order that waits is not on the press", -1, q::onPress);
        Check.due("34 nothing leaves it", 0, () -> q.pass(100));
        Check.due("27 it waits", 'w', () -> q.stateOf(0, 0));
    }

    /** What is printed, and what the plate shows, is the proof with which the sheet was put on the press. */
    private static void pressKeepsItsOwnProof() {
        Proofpress p = Shop.withOrder("ab", 1);
        p.insert(0, 2, 'c');
        p.print(0, 0);
        p.sign(0);
        Check.due("19 the proof is another now", (int) 'c', () -> p.shown(0, 0, 10));
        p.pass(1);
        Check.due("27 the earlier one was printed", 's', () -> p.stateOf(0, 0));
        p.delete(0, 2);
        p.sign(0);
        Check.due("27 the earlier one is back", 'p', () -> p.stateOf(0, 0));
        Check.thrown("32 it is good", STATE, () -> p.print(0, 0));
        Check.due("38 one plate", 1, () -> p.platesFor(0));
    }

    /** A plate is not taken when the last one of this sheet of the order has the same characters: only of this one. */
    private static void platesOfOtherSheetsDoNotCount() {
        Proofpress p = Shop.withOrder("a".repeat(64), 1);
        p.order(0, 1, 5);
        Shop.printThrough(p, 0, 0);
        Shop.printThrough(p, 0, 1);
        Check.due("38 two sheets with the same characters", 2, () -> p.platesFor(0));
        Check.due("37 which are the same", plateOf(p, 0, 0), () -> plateOf(p, 0, 1));
        Shop.printThrough(p, 1, 0);
        Check.due("38 another order with the same characters", 1, () -> p.platesFor(1));
        Check.due("23 three plates are gone", 96, p::plates);
    }

    private static void onlyTheLastPlateCounts() {
        Proofpress p = Shop.withOrder("ab", 1);
        Shop.printThrough(p, 0, 0);
        p.insert(0, 0, 'x');
        p.sign(0);
        Shop.printThrough(p, 0, 0);
        p.delete(0, 0);
        p.sign(0);
        Check.due("27 the first print counts no more", 's', () -> p.stateOf(0, 0));
        Shop.printThrough(p, 0, 0);
        Check.due("38 the first plate counts no more", 3, () -> p.platesFor(0));
        Check.due("23 three plates are gone", 96, p::plates);
        Check.due("39 two prints are wasted", 2, () -> p.wasted(0));
    }

    private static String plateOf(Proofpress p, int order, int sheet) {
        StringBuilder plate = new StringBuilder();
        for (int i = 0; i < p.plateLength(order, sheet); i++) {
            plate.appendCodePoint(p.plateAt(order, sheet, i));
        }
        return plate.toString();
    }
}
