import java.util.NoSuchElementException;

/**
 * Promises 21 to 42: each refused call, with the exception that is due when several are, in the order of the promise,
 * and with nothing changed by it.
 */
final class RefusedOrdersTest {

    private static final Class<NoSuchElementException> MISSING = NoSuchElementException.class;
    private static final Class<IndexOutOfBoundsException> OUTSIDE = IndexOutOfBoundsException.class;
    private static final Class<IllegalArgumentException> UNFIT = IllegalArgumentException.class;
    private static final Class<IllegalStateException> STATE = IllegalStateException.class;
    private static final Class<UnsupportedOperationException> NO_STOCK = UnsupportedOperationException.class;

    private static final int[] NO_ORDERS = Refusal.outside(2);

    public static void main(String[] args) {
        supplyOutOfRange();
        supplyIntoFullStock();
        supplyRangeBeforeStock();
        orderOneReason();
        orderOfExceptionsOfOrder();
        readersOfOrders();
        states();
        nextOrder();
        nextSheet();
        printOneReason();
        printWithoutStock();
        orderOfExceptionsOfPrint();
        pass();
        plates();
        orderOfExceptionsOfPlates();
        sheetsThatAreGone();
        shares();
        Check.end();
    }

    private static void supplyOutOfRange() {
        Refusal shop = new Refusal(Runs.atWork());
        for (int paper : Refusal.outside(10000)) {
            shop.due("21 paper is out of range", UNFIT, "supply", paper, 0);
            shop.due("21 paper is out of range", UNFIT, "supply", paper, 99);
            shop.due("21 both are out of range", UNFIT, "supply", paper, 100);
            shop.due("21 both are out of range", UNFIT, "supply", paper, -1);
        }
        for (int plates : Refusal.outside(100)) {
            shop.due("21 plates are out of range", UNFIT, "supply", 0, plates);
            shop.due("21 plates are out of range", UNFIT, "supply", 9999, plates);
        }
    }

    private static Run stock(int lastPaper, int lastPlates) {
        return new Run().times(10, "supply", 9999, 99).call("supply", lastPaper, lastPlates);
    }

    private static void supplyIntoFullStock() {
        Refusal full = new Refusal(stock(9, 9));
        full.due("21 one sheet too many", STATE, "supply", 1, 0);
        full.due("21 one plate too many", STATE, "supply", 0, 1);
        full.due("21 both too many", STATE, "supply", 9999, 99);
        Refusal nearly = new Refusal(stock(8, 8));
        nearly.due("21 paper too much, plates not", STATE, "supply", 2, 1);
        nearly.due("21 plates too many, paper not", STATE, "supply", 1, 2);
    }

    private static void supplyRangeBeforeStock() {
        Refusal full = new Refusal(stock(9, 9));
        for (int paper : Refusal.outside(10000)) {
            full.due("21 range of paper before full of plates", UNFIT, "supply", paper, 1);
        }
        for (int plates : Refusal.outside(100)) {
            full.due("21 range of plates before full of paper", UNFIT, "supply", 1, plates);
        }
    }

    private static void orderOneReason() {
        Refusal shop = new Refusal(Runs.atWork());
        shop.dueForEach(NO_ORDERS, "24 no such document", MISSING, "order", 1, 0);
        for (int copies : new int[] {Refusal.LEAST, -1, 0, 501, Refusal.GREATEST}) {
            shop.due("24 copies are out of range", UNFIT, "order", 0, copies, 0);
            shop.due("24 copies are out of range", UNFIT, "order", 0, copies, 999);
        }
        for (int due : Refusal.outside(1000)) {
            shop.due("24 the hour is out of range", UNFIT, "order", 0, 1, due);
        }
        shop.due("24 it has no proof", STATE, "order", 1, 1, 5);
        Refusal full = new Refusal(Runs.signed("ab").call("supply", 99, 9).times(6, "order", 0, 1, 5));
        full.due("24 there are 6", STATE, "order", 0, 1, 5);
        Refusal scarce = new Refusal(Runs.signed(Shop.letters(33)).call("supply", 19, 9));
        scarce.due("24 one sheet of paper too few", NO_STOCK, "order", 0, 10, 5);
        scarce.due("24 far too few", NO_STOCK, "order", 0, 500, 5);
        new Refusal(Runs.ordered("ab", 1, 9)).due("24 none is free", NO_STOCK, "order", 0, 1, 5);
        Run shortOfPaper = Runs.ordered("ab", 1, 9).call("print", 0, 0).call("pass", 1)
                .call("insert", 0, 0, 'x').call("sign", 0).call("supply", 5, 0);
        new Refusal(shortOfPaper).due("24 less than none is free", NO_STOCK, "order", 0, 1, 5);
    }

    private static void orderOfExceptionsOfOrder() {
        Refusal unsigned = new Refusal(Runs.text("ab"));
        unsigned.dueForEach(Refusal.outside(1), "24 document before range", MISSING, "order", 0, 1000);
        unsigned.due("24 range before proof and paper", UNFIT, "order", 0, 501, 5);
        unsigned.due("24 range before proof and paper", UNFIT, "order", 0, 1, 1000);
        unsigned.due("24 proof before paper", STATE, "order", 0, 1, 5);
        Refusal full = new Refusal(Runs.signed("ab").call("supply", 6, 9).times(6, "order", 0, 1, 5));
        full.dueForEach(Refusal.outside(1), "24 document before 6 and paper", MISSING, "order", 1, 5);
        full.due("24 range before 6 and paper", UNFIT, "order", 0, 0, 5);
        full.due("24 range before 6 and paper", UNFIT, "order", 0, 1, -1);
        full.due("24 there are 6 before paper", STATE, "order", 0, 1, 5);
        Refusal scarce = new Refusal(Runs.signed("ab"));
        scarce.dueForEach(Refusal.outside(1), "24 document before paper", MISSING, "order", 1, 5);
        scarce.due("24 range before paper", UNFIT, "order", 0, 501, 5);
        scarce.due("24 range before paper", UNFIT, "order", 0, 500, 1000);
        scarce.due("24 paper", NO_STOCK, "order", 0, 1, 0);
    }

    private static void readersOfOrders() {
        Refusal shop = new Refusal(Runs.atWork());
        String[] names = {"needs", "isDone", "lateBy", "platesFor", "wasted", "cost"};
        int[] promises = {25, 28, 29, 38, 39, 40};
        for (int i = 0; i < names.length; i++) {
            shop.dueForEach(NO_ORDERS, promises[i] + " no such order", MISSING, names[i]);
        }
        Refusal full = new Refusal(Runs.signed("ab").call("supply", 99, 9).times(6, "order", 0, 1, 5));
        for (int i = 0; i < names.length; i++) {
            full.dueForEach(Refusal.outside(6), promises[i] + " no such order of 6", MISSING, names[i]);
        }
    }

    private static void states() {
        Refusal shop = new Refusal(Runs.atWork());
        shop.dueForEach(NO_ORDERS, "27 no such order", MISSING, "stateOf", 0);
        shop.dueForEach(NO_ORDERS, "27 order before sheet", MISSING, "stateOf", 2);
        for (int sheet : Refusal.outside(2)) {
            shop.due("27 it has no such sheet", OUTSIDE, "stateOf", 0, sheet);
            shop.due("27 it has no such sheet", OUTSIDE, "stateOf", 1, sheet);
        }
        Refusal three = new Refusal(Runs.ordered(Shop.letters(80), 3, 1));
        for (int sheet : Refusal.outside(3)) {
            three.due("27 it has no such sheet of 3", OUTSIDE, "stateOf", 0, sheet);
        }
    }

    private static void nextOrder() {
        new Refusal(Runs.signed("ab")).due("30 there are no orders", STATE, "nextOrder");
        new Refusal(Runs.printed()).due("30 the only one is done", STATE, "nextOrder");
        Run both = Runs.printed().call("supply", 2, 1).call("order", 0, 2, 0).call("print", 1, 0).call("pass", 1);
        new Refusal(both).due("30 both are done", STATE, "nextOrder");
    }

    private static void nextSheet() {
        Refusal shop = new Refusal(Runs.atWork());
        shop.dueForEach(NO_ORDERS, "31 no such order", MISSING, "nextSheet");
        shop.due("31 one is good, one on the press", STATE, "nextSheet", 0);
        new Refusal(Runs.printed()).due("31 all are good", STATE, "nextSheet", 0);
        new Refusal(Runs.ordered("ab", 1, 1).call("print", 0, 0)).due("31 the only one is on the press", STATE,
                "nextSheet", 0);
    }

    private static void printOneReason() {
        Refusal shop = new Refusal(Runs.ordered(Shop.letters(40), 2, 5).call("print", 0, 0).call("pass", 1));
        shop.dueForEach(Refusal.outside(1), "32 no such order", MISSING, "print", 0);
        for (int sheet : Refusal.outside(2)) {
            shop.due("32 it has no such sheet", OUTSIDE, "print", 0, sheet);
        }
        shop.due("32 this one is good", STATE, "print", 0, 0);
        Refusal busy = new Refusal(Runs.atWork());
        busy.due("32 it is on the press itself", STATE, "print", 0, 1);
        busy.due("32 a sheet of another order is on the press", STATE, "print", 1, 0);
        busy.due("32 one is on the press, and this one is good", STATE, "print", 0, 0);
        Run signedSince = Runs.ordered(Shop.letters(40), 2, 5).call("insert", 0, 40, 'x').call("print", 0, 1)
                .call("sign", 0);
        Refusal earlier = new Refusal(signedSince);
        earlier.due("32 it is on the press with an earlier proof", STATE, "print", 0, 1);
        earlier.due("32 another is on the press with an earlier proof", STATE, "print", 0, 0);
    }

    /** A sheet that is stale needs paper and a plate; the edit makes it so, when there was just enough for one print. */
    private static Run stale(int paper, int plates) {
        return Runs.printed().call("insert", 0, 0, 'x').call("sign", 0).call("supply", paper, plates);
    }

    private static void printWithoutStock() {
        new Refusal(stale(0, 0)).due("32 no paper and no plate", NO_STOCK, "print", 0, 0);
        new Refusal(stale(9, 1)).due("32 one sheet of paper too few", NO_STOCK, "print", 0, 0);
        new Refusal(stale(0, 1)).due("32 no paper", NO_STOCK, "print", 0, 0);
        new Refusal(stale(10, 0)).due("32 no plate", NO_STOCK, "print", 0, 0);
        new Refusal(Runs.ordered("ab", 1, 0)).due("32 no plate for one that waits", NO_STOCK, "print", 0, 0);
    }

    private static void orderOfExceptionsOfPrint() {
        Refusal busy = new Refusal(Runs.ordered(Shop.letters(40), 2, 1).call("print", 0, 0));
        busy.dueForEach(Refusal.outside(1), "32 order before sheet, press and plate", MISSING, "print", 2);
        busy.dueForEach(Refusal.outside(1), "32 order before press and plate", MISSING, "print", 1);
        for (int sheet : Refusal.outside(2)) {
            busy.due("32 sheet before press and plate", OUTSIDE, "print", 0, sheet);
        }
        busy.due("32 press before plate", STATE, "print", 0, 1);
        Refusal good = new Refusal(Runs.printed());
        good.due("32 good before paper and plate", STATE, "print", 0, 0);
        Refusal poor = new Refusal(stale(0, 0));
        poor.due("32 order before paper and plate", MISSING, "print", 1, 0);
        poor.due("32 sheet before paper and plate", OUTSIDE, "print", 0, 1);
        Run busyWithoutPaper = Runs.printed().call("supply", 10, 1).call("order", 0, 10, 5)
                .call("insert", 0, 0, 'x').call("sign", 0).call("print", 1, 0);
        new Refusal(busyWithoutPaper).due("32 press before paper and plate", STATE, "print", 0, 0);
    }

    private static void pass() {
        Refusal shop = new Refusal(Runs.atWork());
        for (int hours : new int[] {Refusal.LEAST, -1, 0, 101, Refusal.GREATEST}) {
            shop.due("34 the number is out of range", UNFIT, "pass", hours);
        }
        Refusal late = new Refusal(new Run().times(9, "pass", 100).call("pass", 50));
        late.due("34 the hour would be 1000", STATE, "pass", 50);
        late.due("34 the hour would be 1050", STATE, "pass", 100);
        Refusal last = new Refusal(Runs.ordered("ab", 1, 1).times(9, "pass", 100).call("pass", 99).call("print", 0, 0));
        last.due("34 the hour would be 1000", STATE, "pass", 1);
        last.due("34 the hour would be 1099", STATE, "pass", 100);
        for (int hours : new int[] {Refusal.LEAST, -1, 0, 101, Refusal.GREATEST}) {
            last.due("34 range before the last hour", UNFIT, "pass", hours);
        }
    }

    private static void plates() {
        Refusal shop = new Refusal(Runs.atWork());
        shop.dueForEach(NO_ORDERS, "36 no such order", MISSING, "plateLength", 0);
        shop.dueForEach(NO_ORDERS, "37 no such order", MISSING, "plateAt", 0, 0);
        for (int sheet : Refusal.outside(2)) {
            shop.due("36 it has no such sheet", OUTSIDE, "plateLength", 0, sheet);
            shop.due("37 it has no such sheet", OUTSIDE, "plateAt", 0, sheet, 0);
        }
        shop.due("36 it never had a plate", STATE, "plateLength", 1, 0);
        shop.due("37 it never had a plate", STATE, "plateAt", 1, 0, 0);
        for (int index : Refusal.outside(16)) {
            shop.due("37 there is no such index of 16", STATE, "plateAt", 0, 0, index);
        }
        for (int index : Refusal.outside(24)) {
            shop.due("37 there is no such index of 24", STATE, "plateAt", 0, 1, index);
        }
        Refusal full = new Refusal(Runs.ordered(Shop.letters(32), 1, 1).call("print", 0, 0));
        for (int index : Refusal.outside(32)) {
            full.due("37 there is no such index of 32", STATE, "plateAt", 0, 0, index);
        }
    }

    private static void orderOfExceptionsOfPlates() {
        Refusal shop = new Refusal(Runs.ordered("ab", 1, 1));
        shop.dueForEach(Refusal.outside(1), "36 order before sheet and plate", MISSING, "plateLength", 1);
        shop.dueForEach(Refusal.outside(1), "37 order before sheet, plate and index", MISSING, "plateAt", 1, 2);
        shop.dueForEach(Refusal.outside(1), "36 order before plate", MISSING, "plateLength", 0);
        for (int sheet : Refusal.outside(1)) {
            shop.due("36 sheet before plate", OUTSIDE, "plateLength", 0, sheet);
            shop.due("37 sheet before plate and index", OUTSIDE, "plateAt", 0, sheet, -1);
        }
        for (int index : Refusal.outside(0)) {
            shop.due("37 no plate", STATE, "plateAt", 0, 0, index);
        }
        Refusal plated = new Refusal(Runs.printed());
        plated.due("37 sheet before index", OUTSIDE, "plateAt", 0, 1, 3);
        plated.due("37 order before index", MISSING, "plateAt", 1, 0, 3);
    }

    /** An order has the sheets of the proof as it is now: what it had of others is kept, but can't be asked for. */
    private static void sheetsThatAreGone() {
        Run shrunk = Runs.ordered(Shop.letters(33), 2, 9).call("print", 0, 1).call("pass", 1)
                .call("delete", 0, 0).call("sign", 0);
        Refusal shop = new Refusal(shrunk);
        shop.due("27 the sheet is gone", OUTSIDE, "stateOf", 0, 1);
        shop.due("32 the sheet is gone", OUTSIDE, "print", 0, 1);
        shop.due("36 the sheet is gone", OUTSIDE, "plateLength", 0, 1);
        shop.due("37 the sheet is gone", OUTSIDE, "plateAt", 0, 1, 0);
        shop.due("18 the sheet is gone", OUTSIDE, "pageOn", 0, 1, 0);
        shop.due("19 the sheet is gone", OUTSIDE, "shown", 0, 1, 0);
        shop.due("20 the sheet is gone", OUTSIDE, "shownByLog", 0, 1, 0);
    }

    private static void shares() {
        new Refusal(Runs.signed("ab")).due("41 there are no orders", ArithmeticException.class, "goodShare");
        new Refusal(new Run().call("supply", 5, 5)).due("42 there are no documents", ArithmeticException.class,
                "meanLength");
    }
}
