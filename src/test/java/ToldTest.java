/**
 * Promise 17, told: "Of an order, what 0: the fund, 1: the cents, 2: the state, 3: how many have approved it, 4: what
 * its latest invoice came to in cents of the house less its cents, 5: how many invoices it had; -1000000000000000001
 * if there is none such, or for another what."
 */
public final class ToldTest {
    private static final Check CHECK = new Check("17 told");
    private static final int ASKED = 0;
    private static final int PLACED = 1;
    private static final int DONE = 2;
    private static final int CANCELLED = 3;

    public static void main(String[] args) {
        eachState();
        howManyHaveApproved();
        withoutAnInvoice();
        latestInvoice();
        refusedInvoicesDontCount();
        anotherWhat();
        noSuchOrder();
        firstAndLastOrder();
        nothingHappens();
        CHECK.end();
    }

    private static FundBook scene() {
        FundBook book = Check.bookWith(3, 1000);
        book.order(2, 400, false);
        book.order(1, 2000, true);
        return book;
    }

    private static void told(String when, FundBook book, int order, long... want) {
        for (int what = 0; what < want.length; what++) {
            CHECK.due(when + ": told(" + order + ", " + what + ")", book.told(order, what), want[what]);
        }
    }

    private static void eachState() {
        FundBook book = scene();
        told("PLACED at once", book, 0, 2, 400, PLACED, 0, 0, 0);
        told("ASKED", book, 1, 1, 2000, ASKED, 0, 0, 0);
        book.invoice(0, 390, 0, 0);
        told("DONE", book, 0, 2, 400, DONE, 0, -10, 1);
        book.approve(1, 7);
        book.approve(1, 8);
        told("PLACED", book, 1, 1, 2000, PLACED, 2, 0, 0);
        book.invoice(1, 2050, 0, 0);
        told("STANDING", book, 1, 1, 2000, PLACED, 2, 50, 1);
        book.cancel(1);
        told("CANCELLED", book, 1, 1, 2000, CANCELLED, 2, 50, 1);
    }

    private static void howManyHaveApproved() {
        FundBook book = scene();
        CHECK.due("none", book.told(1, 3), 0);
        book.approve(1, 7);
        CHECK.due("one", book.told(1, 3), 1);
        book.approve(1, 7);
        CHECK.due("one, twice", book.told(1, 3), 1);
        book.approve(1, 100);
        CHECK.due("one, and one who is none", book.told(1, 3), 1);
        book.approve(1, 8);
        CHECK.due("two", book.told(1, 3), 2);
        book.approve(1, 9);
        CHECK.due("two, and one too late", book.told(1, 3), 2);
    }

    private static void withoutAnInvoice() {
        FundBook book = scene();
        CHECK.due("what its latest invoice came to", book.told(0, 4), 0);
        CHECK.due("how many invoices", book.told(0, 5), 0);
        book.cancel(0);
        CHECK.due("how many invoices of a CANCELLED one", book.told(0, 5), 0);
    }

    private static void latestInvoice() {
        FundBook book = Check.bookWith(1, 1000);
        book.currency(1, 0, 1, 2);
        book.order(0, 100, true);
        int[] cents = {105, 95, 100, 211};
        int[] currencies = {0, 0, 0, 1};
        int[] less = {5, -5, 0, 5};
        for (int month = 0; month < 4; month++) {
            book.invoice(0, cents[month], currencies[month], 30 * month);
            CHECK.due("month " + month, book.told(0, 4), less[month]);
            CHECK.due("month " + month, book.told(0, 5), month + 1);
        }
        CHECK.due("the cents stay", book.told(0, 1), 100);
    }

    private static void refusedInvoicesDontCount() {
        FundBook book = Check.bookWith(1, 1000);
        book.order(0, 100, true);
        book.invoice(0, 103, 0, 0);
        book.invoice(0, 101, 0, 0);
        book.invoice(0, 106, 0, 30);
        book.invoice(0, 101, 1, 30);
        book.invoice(0, 0, 0, 30);
        told("one invoice", book, 0, 0, 100, PLACED, 0, 3, 1);
    }

    private static void anotherWhat() {
        for (int what : new int[] {-1, 6, 7, Integer.MIN_VALUE, Integer.MAX_VALUE}) {
            CHECK.due("told(0, " + what + ")", scene().told(0, what), Check.NOTHING);
        }
    }

    private static void noSuchOrder() {
        FundBook book = scene();
        for (int order : new int[] {2, 299, 300, -1, -10, -11, Integer.MIN_VALUE, Integer.MAX_VALUE}) {
            for (int what = -1; what < 7; what++) {
                CHECK.due("told(" + order + ", " + what + ")", book.told(order, what), Check.NOTHING);
            }
        }
        CHECK.due("of a new object", new FundBook(2030).told(0, 0), Check.NOTHING);
    }

    private static void firstAndLastOrder() {
        FundBook book = Check.bookWith(2, 0);
        for (int order = 0; order < 300; order++) {
            book.order(order % 2, 1 + order, false);
        }
        told("the first", book, 0, 0, 1, ASKED, 0, 0, 0);
        told("the last", book, 299, 1, 300, ASKED, 0, 0, 0);
        CHECK.due("beyond all orders", book.told(300, 0), Check.NOTHING);
    }

    private static void nothingHappens() {
        CHECK.refused("told(0, 6)", ToldTest::scene, book -> book.told(0, 6), Check.NOTHING);
        CHECK.refused("told(2, 0)", ToldTest::scene, book -> book.told(2, 0), Check.NOTHING);
    }
}
