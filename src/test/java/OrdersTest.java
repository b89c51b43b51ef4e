import java.util.NoSuchElementException;

/** Promises 21 to 31: stock, orders, the states of their sheets, and which is next. */
final class OrdersTest {

    private static final Class<NoSuchElementException> MISSING = NoSuchElementException.class;
    private static final Class<IndexOutOfBoundsException> OUTSIDE = IndexOutOfBoundsException.class;
    private static final Class<IllegalArgumentException> UNFIT = IllegalArgumentException.class;
    private static final Class<IllegalStateException> STATE = IllegalStateException.class;
    private static final Class<UnsupportedOperationException> NO_PAPER = UnsupportedOperationException.class;

    public static void main(String[] args) {
        supplies();
        supplyLimits();
        orderNumbers();
        orderExceptions();
        orderPaper();
        needsAndFreePaper();
        statesOfOneSheet();
        onlySheetsThatShowAnEditAreStale();
        printedSheetsAreKept();
        sameCharactersOnOtherPages();
        done();
        lateness();
        nextOrders();
        nextSheets();
        stockAtItsEnds();
        sixOrders();
        freePaperAtItsEdges();
        hoursAtTheirEnds();
        nextOrderByEachRule();
        Check.end();
    }

    private static void supplies() {
        Proofpress p = new Proofpress();
        Check.due("21 paper", 10, () -> p.supply(10, 2));
        Check.due("21 nothing", 10, () -> p.supply(0, 0));
        Check.due("21 more paper", 10009, () -> p.supply(9999, 99));
        Check.due("22 paper", 10009, p::paper);
        Check.due("23 plates", 101, p::plates);
        Check.thrown("21 paper -1", UNFIT, () -> p.supply(-1, 0));
        Check.thrown("21 paper 10000", UNFIT, () -> p.supply(10000, 0));
        Check.thrown("21 plates -1", UNFIT, () -> p.supply(0, -1));
        Check.thrown("21 plates 100", UNFIT, () -> p.supply(0, 100));
        Check.thrown("21 huge", UNFIT, () -> p.supply(Integer.MAX_VALUE, Integer.MIN_VALUE));
        Check.due("22 wrong calls bring nothing", 10009, p::paper);
        Check.due("23 wrong calls bring nothing", 101, p::plates);
    }

    private static void supplyLimits() {
        Proofpress p = new Proofpress();
        for (int i = 0; i < 10; i++) {
            p.supply(9999, 99);
        }
        Check.due("21 the most paper", 99999, () -> p.supply(9, 9));
        Check.due("23 the most plates", 999, p::plates);
        Check.thrown("21 too much paper", STATE, () -> p.supply(1, 0));
        Check.thrown("21 too many plates", STATE, () -> p.supply(0, 1));
        Check.thrown("21 range before limit", UNFIT, () -> p.supply(10000, 1));
        Check.due("21 nothing more", 99999, () -> p.supply(0, 0));
        Check.due("22 paper", 99999, p::paper);
        Check.due("23 plates", 999, p::plates);
    }

    private static void orderNumbers() {
        Proofpress p = Shop.withSignedText("ab");
        p.addDocument();
        Shop.type(p, 1, "x");
        p.sign(1);
        p.supply(9999, 99);
        for (int i = 0; i < 6; i++) {
            int document = i % 2;
            Check.due("24 number", i, () -> p.order(document, 1, 5));
        }
        Check.thrown("24 seventh", STATE, () -> p.order(0, 1, 5));
        Check.thrown("24 range before limit", UNFIT, () -> p.order(0, 0, 5));
        Check.thrown("25 the seventh is not there", MISSING, () -> p.needs(6));
        Shop.printThrough(p, 0, 0);
        Check.thrown("24 done ones count", STATE, () -> p.order(0, 1, 5));
        Proofpress q = Shop.withSignedText("ab");
        q.supply(6, 0);
        for (int i = 0; i < 6; i++) {
            q.order(0, 1, 5);
        }
        Check.thrown("24 limit before paper", STATE, () -> q.order(0, 1, 5));
    }

    private static void orderExceptions() {
        Proofpress p = Shop.withText("ab");
        p.supply(9999, 99);
        Check.thrown("24 no document", MISSING, () -> p.order(1, 0, -1));
        Check.thrown("24 document -1", MISSING, () -> p.order(-1, 1, 1));
        Check.thrown("24 no copies before no proof", UNFIT, () -> p.order(0, 0, 5));
        Check.thrown("24 no proof", STATE, () -> p.order(0, 1, 5));
        p.sign(0);
        Check.thrown("24 copies 0", UNFIT, () -> p.order(0, 0, 5));
        Check.thrown("24 copies -1", UNFIT, () -> p.order(0, -1, 5));
        Check.thrown("24 copies 501", UNFIT, () -> p.order(0, 501, 5));
        Check.thrown("24 due -1", UNFIT, () -> p.order(0, 1, -1));
        Check.thrown("24 due 1000", UNFIT, () -> p.order(0, 1, 1000));
        Check.due("24 the fewest", 0, () -> p.order(0, 1, 0));
        Check.due("24 the most", 1, () -> p.order(0, 500, 999));
        p.pass(50);
        Check.due("24 due in the past", 2, () -> p.order(0, 1, 0));
    }

    private static void orderPaper() {
        Proofpress p = Shop.withSignedText(Shop.letters(65));
        p.supply(29, 0);
        Check.thrown("24 3 sheets of 10 copies need 30", NO_PAPER, () -> p.order(0, 10, 5));
        p.supply(1, 0);
        Check.due("24 just enough", 0, () -> p.order(0, 10, 5));
        Check.due("26 nothing is free", 0, p::freePaper);
        Check.thrown("24 nothing is free", NO_PAPER, () -> p.order(0, 1, 5));
        Check.due("22 an order takes no paper", 30, p::paper);
    }

    private static void needsAndFreePaper() {
        Proofpress p = Shop.withSignedText(Shop.letters(40));
        Check.thrown("25 no order", MISSING, () -> p.needs(0));
        p.supply(100, 9);
        p.order(0, 20, 5);
        p.order(0, 30, 5);
        Check.due("25 both sheets wait", 40, () -> p.needs(0));
        Check.due("25 the other order", 60, () -> p.needs(1));
        Check.due("26 free", 0, p::freePaper);
        p.print(0, 1);
        Check.due("25 what is on the press needs none", 20, () -> p.needs(0));
        Check.due("26 paper that was needed is taken", 0, p::freePaper);
        p.pass(1);
        Check.due("25 what is good needs none", 20, () -> p.needs(0));
        p.insert(0, 40, 'x');
        p.sign(0);
        Check.due("25 what is stale needs some", 40, () -> p.needs(0));
        Check.due("26 less than 0", -20, p::freePaper);
        Check.due("22 the stock", 80, p::paper);
        Shop.type(p, 0, Shop.letters(39));
        p.sign(0);
        Check.due("25 a third sheet", 60, () -> p.needs(0));
        Check.due("26 still less", -70, p::freePaper);
        Check.thrown("25 order 2", MISSING, () -> p.needs(2));
        Check.thrown("25 order -1", MISSING, () -> p.needs(-1));
    }

    private static void statesOfOneSheet() {
        Proofpress p = Shop.withOrder("ab", 1);
        Check.due("27 waits", 'w', () -> p.stateOf(0, 0));
        p.print(0, 0);
        Check.due("27 on the press", 'o', () -> p.stateOf(0, 0));
        p.order(0, 1, 5);
        Check.due("27 of another order", 'w', () -> p.stateOf(1, 0));
        p.pass(1);
        Check.due("27 good", 'p', () -> p.stateOf(0, 0));
        p.insert(0, 0, 'x');
        Check.due("27 an unsigned edit", 'p', () -> p.stateOf(0, 0));
        p.sign(0);
        Check.due("27 stale", 's', () -> p.stateOf(0, 0));
        p.print(0, 0);
        Check.due("27 again on the press", 'o', () -> p.stateOf(0, 0));
        p.pass(1);
        p.delete(0, 0);
        p.insert(0, 0, 'x');
        p.sign(0);
        Check.due("27 good by its characters", 'p', () -> p.stateOf(0, 0));
        p.delete(0, 0);
        p.sign(0);
        Check.due("27 only the last print counts", 's', () -> p.stateOf(0, 0));
        Check.thrown("27 no order", MISSING, () -> p.stateOf(2, 9));
        Check.thrown("27 order -1", MISSING, () -> p.stateOf(-1, 0));
        Check.thrown("27 no sheet", OUTSIDE, () -> p.stateOf(0, 1));
        Check.thrown("27 sheet -1", OUTSIDE, () -> p.stateOf(0, -1));
    }

    private static void onlySheetsThatShowAnEditAreStale() {
        Proofpress p = Shop.withOrder(Shop.letters(80), 1);
        for (int sheet = 0; sheet < 3; sheet++) {
            Shop.printThrough(p, 0, sheet);
        }
        Check.due("27 all good", "ppp", () -> states(p, 0));
        // Place 79 is on page 9, which sheet 1 shows.
        p.delete(0, 79);
        p.sign(0);
        Check.due("27 the last page", "psp", () -> states(p, 0));
        // Place 56 is on page 7, which sheet 2 shows; pages 8 and 9 move with it.
        p.delete(0, 56);
        p.sign(0);
        Check.due("27 from page 7 on", "pss", () -> states(p, 0));
        p.delete(0, 0);
        p.sign(0);
        Check.due("27 all", "sss", () -> states(p, 0));
    }

    private static void printedSheetsAreKept() {
        Proofpress p = Shop.withOrder(Shop.letters(40), 1);
        Shop.printThrough(p, 0, 0);
        Shop.printThrough(p, 0, 1);
        Check.due("28 done", true, () -> p.isDone(0));
        String text = Shop.textOf(p, 0);
        for (int i = 0; i < 20; i++) {
            p.delete(0, 20);
        }
        p.sign(0);
        Check.thrown("27 the second sheet is gone", OUTSIDE, () -> p.stateOf(0, 1));
        Check.due("27 the first is stale", 's', () -> p.stateOf(0, 0));
        Shop.type(p, 0, text.substring(20));
        p.sign(0);
        Check.due("27 the text is back, and with it both sheets", "pp", () -> states(p, 0));
        sheetLeavesThePressWhileItsProofIsGone();
    }

    private static void sheetLeavesThePressWhileItsProofIsGone() {
        Proofpress p = Shop.withOrder(Shop.letters(40), 1);
        p.addDocument();
        p.insert(0, 40, 'x');
        p.print(0, 1);
        Check.due("15 signed while on the press", 2, () -> p.sign(0));
        Check.due("27 it is on the press", "wo", () -> states(p, 0));
        p.pass(1);
        Check.due("27 it shows the earlier proof", "ws", () -> states(p, 0));
        p.delete(0, 40);
        p.sign(0);
        Check.due("27 it shows what the proof shows again", "wp", () -> states(p, 0));
    }

    private static void sameCharactersOnOtherPages() {
        // The sheet 0 shows the pages 3, 0, 1, 2 of 16 characters, and the pages 7, 0, 1, 6 of 40: the same.
        Proofpress p = Shop.withOrder(Shop.letters(16), 1);
        Shop.printThrough(p, 0, 0);
        Shop.type(p, 0, Shop.letters(24));
        p.sign(0);
        Check.due("27 what it shows is as it was", "pw", () -> states(p, 0));
    }

    private static void done() {
        Proofpress p = Shop.withOrder(Shop.letters(40), 1);
        Check.due("28 waits", false, () -> p.isDone(0));
        Shop.printThrough(p, 0, 1);
        Check.due("28 one of two", false, () -> p.isDone(0));
        p.print(0, 0);
        Check.due("28 one is on the press", false, () -> p.isDone(0));
        p.pass(1);
        Check.due("28 done", true, () -> p.isDone(0));
        p.insert(0, 40, 'x');
        p.sign(0);
        Check.due("28 one is stale", false, () -> p.isDone(0));
        Check.thrown("28 no order", MISSING, () -> p.isDone(1));
        Check.thrown("28 order -1", MISSING, () -> p.isDone(-1));
    }

    private static void lateness() {
        Proofpress p = Shop.withOrder("ab", 1);
        Check.due("29 not yet due", 0, () -> p.lateBy(0));
        p.pass(10);
        Check.due("29 just due", 0, () -> p.lateBy(0));
        p.pass(1);
        Check.due("29 late", 1, () -> p.lateBy(0));
        p.pass(100);
        Check.due("29 later", 101, () -> p.lateBy(0));
        p.print(0, 0);
        Check.due("29 on the press is not done", 101, () -> p.lateBy(0));
        p.pass(1);
        Check.due("29 done", 0, () -> p.lateBy(0));
        p.insert(0, 0, 'x');
        p.sign(0);
        Check.due("29 stale", 102, () -> p.lateBy(0));
        Check.thrown("29 no order", MISSING, () -> p.lateBy(1));
        Check.thrown("29 order -1", MISSING, () -> p.lateBy(-1));
    }

    private static void nextOrders() {
        Proofpress p = Shop.withSignedText("ab");
        Check.thrown("30 no orders", STATE, p::nextOrder);
        p.supply(9999, 99);
        p.order(0, 5, 20);
        Check.due("30 the only one", 0, p::nextOrder);
        p.order(0, 5, 20);
        Check.due("30 the lowest number", 0, p::nextOrder);
        p.order(0, 6, 20);
        Check.due("30 more copies", 2, p::nextOrder);
        p.order(0, 1, 19);
        Check.due("30 due first", 3, p::nextOrder);
        p.order(0, 500, 21);
        Check.due("30 later ones do not count", 3, p::nextOrder);
        p.print(3, 0);
        Check.due("30 on the press is not done", 3, p::nextOrder);
        p.pass(1);
        Check.due("30 then more copies", 2, p::nextOrder);
        Shop.printThrough(p, 2, 0);
        Check.due("30 then the lowest number", 0, p::nextOrder);
        Shop.printThrough(p, 0, 0);
        Check.due("30 then the next", 1, p::nextOrder);
        Shop.printThrough(p, 1, 0);
        Check.due("30 then the last", 4, p::nextOrder);
        Shop.printThrough(p, 4, 0);
        Check.thrown("30 all are done", STATE, p::nextOrder);
        p.insert(0, 0, 'x');
        p.sign(0);
        Check.due("30 all are stale", 3, p::nextOrder);
    }

    private static void nextSheets() {
        Proofpress p = Shop.withOrder(Shop.letters(80), 1);
        Check.due("31 the first", 0, () -> p.nextSheet(0));
        p.print(0, 0);
        Check.due("31 the first is on the press", 1, () -> p.nextSheet(0));
        p.pass(1);
        Shop.printThrough(p, 0, 2);
        Check.due("31 in between", 1, () -> p.nextSheet(0));
        p.print(0, 1);
        Check.thrown("31 the last is on the press", STATE, () -> p.nextSheet(0));
        p.pass(1);
        Check.thrown("31 all are good", STATE, () -> p.nextSheet(0));
        p.delete(0, 79);
        p.sign(0);
        Check.due("31 stale", 1, () -> p.nextSheet(0));
        Check.thrown("31 no order", MISSING, () -> p.nextSheet(1));
        Check.thrown("31 order -1", MISSING, () -> p.nextSheet(-1));
    }

    private static String states(Proofpress p, int order) {
        StringBuilder states = new StringBuilder();
        for (int sheet = 0; sheet < p.sheets(0); sheet++) {
            states.append(p.stateOf(order, sheet));
        }
        return states.toString();
    }

    /** 0 to 9999 sheets of paper and 0 to 99 plates at a time, up to 99999 and 999. */
    private static void stockAtItsEnds() {
        Proofpress p = new Proofpress();
        Check.due("21 the most at a time", 9999, () -> p.supply(9999, 99));
        Check.due("21 no paper", 9999, () -> p.supply(0, 99));
        Check.due("21 no plates", 19998, () -> p.supply(9999, 0));
        Check.due("23 plates", 198, p::plates);
        Proofpress full = new Proofpress();
        for (int i = 0; i < 10; i++) {
            full.supply(9999, 99);
        }
        Check.thrown("21 100000 sheets of paper", STATE, () -> full.supply(10, 0));
        Check.thrown("21 1000 plates", STATE, () -> full.supply(0, 10));
        Check.due("21 99998 sheets of paper", 99998, () -> full.supply(8, 8));
        Check.thrown("21 two more sheets", STATE, () -> full.supply(2, 1));
        Check.thrown("21 two more plates", STATE, () -> full.supply(1, 2));
        Check.due("21 99999 sheets of paper and 999 plates", 99999, () -> full.supply(1, 1));
        Check.due("23 999 plates", 999, full::plates);
    }

    /** At most 6 orders have numbers from 0. */
    private static void sixOrders() {
        Proofpress p = Shop.withSignedText("ab");
        p.supply(6, 6);
        for (int i = 0; i < 6; i++) {
            int number = i;
            Check.thrown("25 number " + i + " is not there yet", MISSING, () -> p.needs(number));
            Check.due("24 number " + i, i, () -> p.order(0, 1, 9 - number));
            Check.due("25 number " + i + " is there", 1, () -> p.needs(number));
            Check.due("26 free paper then", 5 - i, p::freePaper);
        }
        for (int i = 5; i >= 0; i--) {
            int number = i;
            Check.due("30 the last is due first", i, p::nextOrder);
            Shop.printThrough(p, i, 0);
            Check.due("28 number " + i + " is done", true, () -> p.isDone(number));
        }
        Check.thrown("30 all are done", STATE, p::nextOrder);
        Check.due("22 no paper is left", 0, p::paper);
        Check.due("23 no plate is left", 0, p::plates);
    }

    /** Free paper is just 0, just less, and just enough. */
    private static void freePaperAtItsEdges() {
        Proofpress p = Shop.withSignedText(Shop.letters(32));
        p.supply(500, 9);
        Check.due("24 all the paper for the most copies", 0, () -> p.order(0, 500, 5));
        Check.due("26 just 0", 0, p::freePaper);
        Shop.type(p, 0, "x");
        Check.due("26 an unsigned sheet needs none", 0, p::freePaper);
        p.sign(0);
        Check.due("25 two sheets of 500 copies", 1000, () -> p.needs(0));
        Check.due("26 less than 0", -500, p::freePaper);
        p.supply(500, 0);
        Check.due("26 just 0 again", 0, p::freePaper);
        Check.thrown("24 one copy on two sheets needs 2", NO_PAPER, () -> p.order(0, 1, 5));
        p.supply(1, 0);
        Check.thrown("24 one is too few", NO_PAPER, () -> p.order(0, 1, 5));
        p.supply(1, 0);
        Check.due("24 two are enough", 1, () -> p.order(0, 1, 5));
    }

    /** The hour is 0 at first, and 999 at most, and so is that at which an order is due. */
    private static void hoursAtTheirEnds() {
        Proofpress p = Shop.withOrder("ab", 1);
        p.order(0, 1, 0);
        p.order(0, 1, 999);
        p.order(0, 1, 998);
        Check.due("29 due at hour 0 at hour 0", 0, () -> p.lateBy(1));
        p.pass(1);
        Check.due("29 due at hour 0 at hour 1", 1, () -> p.lateBy(1));
        p.pass(8);
        Check.due("29 an hour before it is due", 0, () -> p.lateBy(0));
        Shop.passTo(p, 998);
        Check.due("29 due at hour 998 at hour 998", 0, () -> p.lateBy(3));
        p.pass(1);
        Check.due("29 due at hour 0 at hour 999", 999, () -> p.lateBy(1));
        Check.due("29 due at hour 999 at hour 999", 0, () -> p.lateBy(2));
        Check.due("29 due at hour 998 at hour 999", 1, () -> p.lateBy(3));
    }

    private static void nextOrderByEachRule() {
        checkNext(0, 5, 20, 5, 20, "the lowest number");
        checkNext(1, 5, 20, 6, 20, "one copy more");
        checkNext(0, 6, 20, 5, 20, "one copy more");
        checkNext(1, 500, 20, 1, 19, "an hour earlier, though fewer copies");
        checkNext(0, 1, 19, 500, 20, "an hour earlier, though fewer copies");
        checkNext(0, 1, 0, 500, 999, "the first hour");
        checkNext(1, 500, 999, 1, 0, "the first hour");
    }

    private static void checkNext(int want, int copies0, int due0, int copies1, int due1, String what) {
        Proofpress p = Shop.withSignedText("ab");
        p.supply(9999, 99);
        p.order(0, copies0, due0);
        p.order(0, copies1, due1);
        Check.due("30 " + what, want, p::nextOrder);
        Shop.printThrough(p, want, 0);
        Check.due("30 then the other: " + what, 1 - want, p::nextOrder);
    }
}
