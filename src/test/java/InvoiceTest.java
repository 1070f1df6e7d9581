/**
 * Promise 6, invoice: "An INVOICE, 1 .. 1000000000 cents of a currency on a day 0 .. 100000: the cents of the house.
 * NONE; RANGE; STATE unless the order is PLACED (of a STANDING one also if it had one in that month or a later one);
 * CURRENCY without a row (but of currency 0); BAND; FULL." (The band's edges: BandTest; a row's: CurrencyTest; FULL:
 * LimitTest.)
 */
public final class InvoiceTest {
    private static final Check CHECK = new Check("6 invoice");
    private static final int MOST = 1000000000;
    private static final int LAST_DAY = 100000;
    private static final int PLACED = 1;
    private static final int DONE = 2;

    public static void main(String[] args) {
        anInvoice();
        leastAndMostCents();
        firstAndLastDay();
        firstAndLastCurrency();
        freeMayComeBelowZero();
        tooFewOrTooManyCents();
        noSuchCurrency();
        noSuchDay();
        noSuchOrder();
        notPlaced();
        withoutARow();
        beyondTheBand();
        firstReasonCounts();
        CHECK.end();
    }

    /**
     * Order 0 of 100 cents is PLACED, 1 is ASKED with one approval, 2 is CANCELLED, 3 is DONE, 4 of 100 cents is
     * STANDING with an invoice on day 65. Currency 1 has a row from day 10 on, currency 2 has none.
     */
    private static FundBook scene() {
        FundBook book = Check.bookWith(2, 1000);
        book.order(0, 100, false);
        book.order(0, 5000, false);
        book.order(0, 100, false);
        book.order(1, 100, false);
        book.order(1, 100, true);
        book.approve(1, 1);
        book.cancel(2);
        book.invoice(3, 101, 0, 0);
        book.invoice(4, 102, 0, 65);
        book.currency(1, 10, 1, 2);
        return book;
    }

    /**
     * "Then the order is DONE, no more encumbered, and the sum is SPENT. A STANDING order stays PLACED, with the same
     * cents"
     */
    private static void anInvoice() {
        FundBook book = scene();
        CHECK.amounts("before", book, 0, 1000, 100, 0);
        CHECK.due("invoice(0, 96, 0, 5)", book.invoice(0, 96, 0, 5), 96);
        CHECK.amounts("after", book, 0, 1000, 0, 96);
        CHECK.due("its state", book.told(0, 2), DONE);
        CHECK.due("its cents stay", book.told(0, 1), 100);
        CHECK.amounts("before", book, 1, 1000, 100, 203);
        CHECK.due("invoice(4, 97, 0, 95)", book.invoice(4, 97, 0, 95), 97);
        CHECK.amounts("after", book, 1, 1000, 100, 300);
        CHECK.due("its state", book.told(4, 2), PLACED);
        CHECK.due("its cents stay", book.told(4, 1), 100);
        CHECK.due("in cents of the house", book.invoice(4, 200, 1, 125), 100);
        CHECK.amounts("after", book, 1, 1000, 100, 400);
    }

    private static void leastAndMostCents() {
        FundBook book = Check.bookWith(1, 3000000000L);
        book.order(0, 1, false);
        book.order(0, MOST, false);
        book.order(0, 1000, false);
        CHECK.due("1 cent", book.invoice(0, 1, 0, 0), 1);
        CHECK.amounts("1 cent", book, 0, 3000000000L, 1000001000, 1);
        CHECK.due("the most", book.invoice(1, MOST, 0, 0), MOST);
        CHECK.amounts("the most", book, 0, 3000000000L, 1000, 1000000001);
        book.currency(1, 0, 1, 1000000);
        CHECK.due("the most of another currency", book.invoice(2, MOST, 1, 0), 1000);
    }

    private static void firstAndLastDay() {
        FundBook book = Check.bookWith(1, 1000);
        book.order(0, 10, false);
        book.order(0, 10, false);
        CHECK.due("day 0", book.invoice(0, 10, 0, 0), 10);
        CHECK.due("day 100000", book.invoice(1, 10, 0, LAST_DAY), 10);
    }

    /** "cents in a CURRENCY 0 .. 9" */
    private static void firstAndLastCurrency() {
        FundBook book = Check.bookWith(1, 1000);
        for (int currency = 0; currency < 10; currency++) {
            book.order(0, 10 * (10 - currency), false);
            book.currency(currency, 0, 10 - currency, 10);
            CHECK.due("currency " + currency, book.invoice(currency, 100, currency, 0), 100 - 10 * currency);
        }
        CHECK.amounts("all currencies", book, 0, 1000, 0, 550);
    }

    private static void freeMayComeBelowZero() {
        FundBook book = Check.bookWith(1, 100);
        book.order(0, 100, false);
        CHECK.due("more than was GIVEN", book.invoice(0, 105, 0, 0), 105);
        CHECK.due("FREE", book.about(0, 3), -5);
        book.give(0, 105);
        book.order(0, 100, true);
        CHECK.due("a STANDING one with nothing FREE", book.invoice(1, 100, 0, 0), 100);
        CHECK.due("FREE", book.about(0, 3), -100);
        CHECK.due("and once more", book.invoice(1, 100, 0, 30), 100);
        CHECK.amounts("FREE is below 0", book, 0, 205, 100, 305);
    }

    private static void tooFewOrTooManyCents() {
        for (int cents : new int[] {0, -1, -100, MOST + 1, Integer.MIN_VALUE, Integer.MAX_VALUE}) {
            refused("cents " + cents, 0, cents, 0, 5, FundBook.RANGE);
            refused("cents " + cents + ", of a row", 0, cents, 1, 10, FundBook.RANGE);
            refused("cents " + cents + ", STANDING", 4, cents, 0, 95, FundBook.RANGE);
        }
    }

    private static void noSuchCurrency() {
        for (int currency : new int[] {-1, 10, 11, Integer.MIN_VALUE, Integer.MAX_VALUE}) {
            refused("currency " + currency, 0, 100, currency, 5, FundBook.RANGE);
        }
    }

    private static void noSuchDay() {
        for (int day : new int[] {-1, -30, LAST_DAY + 1, Integer.MIN_VALUE, Integer.MAX_VALUE}) {
            refused("day " + day, 0, 100, 0, day, FundBook.RANGE);
            refused("day " + day + ", STANDING", 4, 100, 0, day, FundBook.RANGE);
        }
    }

    private static void noSuchOrder() {
        for (int order : new int[] {5, 299, 300, -1, -10, Integer.MIN_VALUE, Integer.MAX_VALUE}) {
            refused("order " + order, order, 100, 0, 5, FundBook.NONE);
        }
        FundBook book = Check.bookWith(1, 1000);
        for (int order = 0; order < 300; order++) {
            book.order(0, 1, false);
        }
        CHECK.due("the last of all orders", book.invoice(299, 1, 0, 0), 1);
        CHECK.due("beyond all orders", book.invoice(300, 1, 0, 0), FundBook.NONE);
    }

    private static void notPlaced() {
        refused("one that is ASKED", 1, 5000, 0, 5, FundBook.STATE);
        refused("one that is CANCELLED", 2, 100, 0, 5, FundBook.STATE);
        refused("one that is DONE", 3, 101, 0, 5, FundBook.STATE);
        refused("one that is DONE, much later", 3, 101, 0, 5000, FundBook.STATE);
        FundBook book = scene();
        book.approve(1, 2);
        CHECK.due("the ASKED one once two have approved it", book.invoice(1, 5000, 0, 5), 5000);
        book.cancel(4);
        CHECK.due("a STANDING one that is CANCELLED", book.invoice(4, 100, 0, 300), FundBook.STATE);
    }

    private static void withoutARow() {
        refused("a currency without any row", 0, 100, 2, 5, FundBook.CURRENCY);
        refused("the last currency without any row", 0, 100, 9, LAST_DAY, FundBook.CURRENCY);
        refused("the day before its first row", 0, 200, 1, 9, FundBook.CURRENCY);
        refused("a STANDING one", 4, 100, 2, 95, FundBook.CURRENCY);
    }

    private static void beyondTheBand() {
        refused("too much", 0, 106, 0, 5, FundBook.BAND);
        refused("too little", 0, 94, 0, 5, FundBook.BAND);
        refused("too much of a row", 0, 212, 1, 10, FundBook.BAND);
        refused("too little of a row", 0, 189, 1, 10, FundBook.BAND);
        refused("a STANDING one", 4, 106, 0, 95, FundBook.BAND);
        FundBook book = scene();
        book.invoice(4, 106, 0, 95);
        CHECK.due("a month is not taken by a refused invoice", book.invoice(4, 105, 0, 90), 105);
    }

    private static void firstReasonCounts() {
        refused("NONE, RANGE", 5, 0, 10, -1, FundBook.NONE);
        refused("RANGE, STATE", 3, 0, 0, 5, FundBook.RANGE);
        refused("RANGE, STATE", 1, 5000, 10, 5, FundBook.RANGE);
        refused("RANGE, STATE", 4, 100, 0, -1, FundBook.RANGE);
        refused("RANGE, CURRENCY", 0, 0, 2, 5, FundBook.RANGE);
        refused("STATE, CURRENCY, BAND", 3, 1, 2, 5, FundBook.STATE);
        refused("STATE, CURRENCY of a STANDING one", 4, 100, 2, 65, FundBook.STATE);
        refused("STATE, BAND of a STANDING one", 4, 1, 0, 65, FundBook.STATE);
        refused("CURRENCY, BAND", 0, 1, 2, 5, FundBook.CURRENCY);
        refused("CURRENCY, BAND", 0, MOST, 1, 9, FundBook.CURRENCY);
    }

    private static void refused(String why, int order, int cents, int currency, int day, long want) {
        CHECK.refused(why, InvoiceTest::scene, book -> book.invoice(order, cents, currency, day), want);
    }
}
