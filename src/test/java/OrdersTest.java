/** Promises 4 order, 5 approve, 7 cancel, 17 told. */
public final class OrdersTest {
    private static final Check CHECK = new Check("orders");
    private static final int ASKED = 0;
    private static final int PLACED = 1;
    private static final int DONE = 2;
    private static final int CANCELLED = 3;

    public static void main(String[] args) {
        placedOrAsked();
        refusedOrders();
        ordersAreFull();
        approvals();
        refusedApprovals();
        cancelling();
        told();
        CHECK.end();
    }

    private static void placedOrAsked() {
        FundBook book = Check.bookWith(1, 1000);
        CHECK.due("order of 400", book.order(0, 400, false), 0);
        CHECK.due("order of one more than is FREE", book.order(0, 601, true), -11);
        CHECK.amounts("one PLACED, one ASKED", book, 0, 1000, 400, 0);
        CHECK.due("order of all that is FREE", book.order(0, 600, true), 2);
        CHECK.due("order of 1 with nothing FREE", book.order(0, 1, false), -13);
        CHECK.amounts("all encumbered", book, 0, 1000, 1000, 0);
        CHECK.due("state of 0", book.told(0, 2), PLACED);
        CHECK.due("state of 1", book.told(1, 2), ASKED);
        CHECK.due("the first one ASKED", Check.bookWith(1, 0).order(0, 1000000000, false), -10);
    }

    private static void refusedOrders() {
        FundBook book = Check.bookWith(1, 5000000000L);
        CHECK.due("order(1, ..)", book.order(1, 1, false), FundBook.NONE);
        CHECK.due("order(-1, ..)", book.order(-1, 1, false), FundBook.NONE);
        CHECK.due("0 cents", book.order(0, 0, false), FundBook.RANGE);
        CHECK.due("-1 cents", book.order(0, -1, true), FundBook.RANGE);
        CHECK.due("more than the most", book.order(0, 1000000001, false), FundBook.RANGE);
        CHECK.due("NONE comes before RANGE", book.order(1, 0, false), FundBook.NONE);
        CHECK.due("none of them is an order", book.sum(2), 0);
        CHECK.amounts("refused orders", book, 0, 5000000000L, 0, 0);
        CHECK.due("the most", book.order(0, 1000000000, false), 0);
        CHECK.amounts("the most", book, 0, 5000000000L, 1000000000L, 0);
    }

    private static void ordersAreFull() {
        FundBook book = Check.bookWith(1, 100);
        for (int i = 0; i < 300; i++) {
            CHECK.due("order " + i, book.order(0, 1, false), i < 100 ? i : -10 - i);
        }
        CHECK.due("order 300", book.order(0, 1, false), FundBook.FULL);
        CHECK.due("RANGE comes before FULL", book.order(0, 0, false), FundBook.RANGE);
        CHECK.due("cancel(299)", book.cancel(299), 0);
        CHECK.due("a cancelled one leaves no room", book.order(0, 1, false), FundBook.FULL);
        CHECK.due("told(300, 0)", book.told(300, 0), Check.NOTHING);
        CHECK.due("sum(2)", book.sum(2), 300);
    }

    private static void approvals() {
        FundBook book = Check.bookWith(1, 100);
        book.order(0, 500, false);
        CHECK.due("the first approves", book.approve(0, 0), 1);
        CHECK.amounts("one has approved", book, 0, 100, 0, 0);
        CHECK.due("the state then", book.told(0, 2), ASKED);
        CHECK.due("the first once more", book.approve(0, 0), FundBook.STATE);
        CHECK.due("the second approves", book.approve(0, 99), 2);
        CHECK.amounts("two have approved", book, 0, 100, 500, 0);
        CHECK.due("the state then", book.told(0, 2), PLACED);
        CHECK.due("a third one", book.approve(0, 5), FundBook.STATE);
        book.order(0, 7, false);
        CHECK.due("persons 64 apart are two", book.approve(1, 1), 1);
        CHECK.due("persons 64 apart are two", book.approve(1, 65), 2);
        book.order(0, 7, false);
        CHECK.due("a person of another order", book.approve(2, 63), 1);
        CHECK.due("the neighbour", book.approve(2, 64), 2);
    }

    private static void refusedApprovals() {
        FundBook book = Check.bookWith(1, 100);
        book.order(0, 100, false);
        book.order(0, 500, false);
        CHECK.due("approve(2, 0)", book.approve(2, 0), FundBook.NONE);
        CHECK.due("approve(-1, 0)", book.approve(-1, 0), FundBook.NONE);
        CHECK.due("person 100", book.approve(1, 100), FundBook.RANGE);
        CHECK.due("person -1", book.approve(1, -1), FundBook.RANGE);
        CHECK.due("NONE comes before RANGE", book.approve(2, 100), FundBook.NONE);
        CHECK.due("RANGE comes before STATE", book.approve(0, 100), FundBook.RANGE);
        CHECK.due("one that is PLACED", book.approve(0, 1), FundBook.STATE);
        CHECK.due("refused ones don't count", book.told(0, 3), 0);
        CHECK.due("refused ones don't count", book.told(1, 3), 0);
        book.cancel(1);
        CHECK.due("one that is CANCELLED", book.approve(1, 1), FundBook.STATE);
    }

    private static void cancelling() {
        FundBook book = Check.bookWith(1, 1000);
        book.order(0, 600, false);
        book.order(0, 500, false);
        book.order(0, 300, true);
        book.order(0, 100, false);
        book.invoice(3, 100, 0, 0);
        book.approve(1, 1);
        CHECK.due("one that is PLACED", book.cancel(0), 600);
        CHECK.due("one that is CANCELLED", book.cancel(0), FundBook.STATE);
        CHECK.due("one that is ASKED", book.cancel(1), 0);
        CHECK.due("that one once more", book.cancel(1), FundBook.STATE);
        CHECK.due("a STANDING one", book.cancel(2), 300);
        CHECK.due("one that is DONE", book.cancel(3), FundBook.STATE);
        CHECK.due("cancel(4)", book.cancel(4), FundBook.NONE);
        CHECK.due("cancel(-1)", book.cancel(-1), FundBook.NONE);
        CHECK.amounts("all cancelled or done", book, 0, 1000, 0, 100);
        CHECK.due("the state of one that was PLACED", book.told(0, 2), CANCELLED);
        CHECK.due("the state of one that was ASKED", book.told(1, 2), CANCELLED);
    }

    private static void told() {
        FundBook book = Check.bookWith(3, 1000);
        book.order(2, 400, false);
        book.order(1, 2000, true);
        CHECK.due("the latest invoice of one without", book.told(0, 4), 0);
        CHECK.due("the invoices of one without", book.told(0, 5), 0);
        CHECK.due("who approved one PLACED at once", book.told(0, 3), 0);
        book.approve(1, 7);
        CHECK.due("who approved", book.told(1, 3), 1);
        book.approve(1, 8);
        book.invoice(0, 390, 0, 0);
        book.invoice(1, 2050, 0, 0);
        book.invoice(1, 1999, 0, 30);
        long[] first = {2, 400, DONE, 0, -10, 1};
        long[] second = {1, 2000, PLACED, 2, -1, 2};
        for (int what = 0; what < 6; what++) {
            CHECK.due("told(0, " + what + ")", book.told(0, what), first[what]);
            CHECK.due("told(1, " + what + ")", book.told(1, what), second[what]);
        }
        CHECK.due("told(0, -1)", book.told(0, -1), Check.NOTHING);
        CHECK.due("told(0, 6)", book.told(0, 6), Check.NOTHING);
        CHECK.due("told(2, 0)", book.told(2, 0), Check.NOTHING);
        CHECK.due("told(-1, 0)", book.told(-1, 0), Check.NOTHING);
        CHECK.due("told(the greatest int, 0)", book.told(Integer.MAX_VALUE, 0), Check.NOTHING);
    }
}
