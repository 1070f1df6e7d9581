/**
 * Promise 7, cancel: "An order is CANCELLED: the cents that are no more encumbered (0 of one that is ASKED). NONE;
 * STATE if it is DONE or CANCELLED."
 */
public final class CancelTest {
    private static final Check CHECK = new Check("7 cancel");
    private static final int CANCELLED = 3;

    public static void main(String[] args) {
        placed();
        asked();
        standing();
        leastAndMost();
        noSuchOrder();
        doneOrCancelled();
        freedForOthers();
        CHECK.end();
    }

    /**
     * Order 0 is PLACED, 1 is ASKED with one approval, 2 is STANDING, 3 is DONE, 4 was PLACED and 5 ASKED: CANCELLED.
     */
    private static FundBook scene() {
        FundBook book = Check.bookWith(1, 1000);
        book.order(0, 400, false);
        book.order(0, 2000, false);
        book.order(0, 200, true);
        book.order(0, 100, false);
        book.order(0, 50, false);
        book.order(0, 3000, true);
        book.approve(1, 1);
        book.invoice(3, 99, 0, 0);
        book.cancel(4);
        book.cancel(5);
        return book;
    }

    private static void placed() {
        FundBook book = scene();
        CHECK.amounts("before", book, 0, 1000, 600, 99);
        CHECK.due("cancel(0)", book.cancel(0), 400);
        CHECK.due("its state", book.told(0, 2), CANCELLED);
        CHECK.amounts("no more encumbered", book, 0, 1000, 200, 99);
        book.approve(1, 2);
        CHECK.due("one that two have approved", book.cancel(1), 2000);
        CHECK.amounts("no more encumbered", book, 0, 1000, 200, 99);
    }

    private static void asked() {
        FundBook book = scene();
        CHECK.due("cancel(1)", book.cancel(1), 0);
        CHECK.due("its state", book.told(1, 2), CANCELLED);
        CHECK.due("its approvals stay", book.told(1, 3), 1);
        CHECK.amounts("nothing was encumbered", book, 0, 1000, 600, 99);
    }

    private static void standing() {
        FundBook book = scene();
        book.invoice(2, 210, 0, 0);
        CHECK.due("cancel(2)", book.cancel(2), 200);
        CHECK.due("its state", book.told(2, 2), CANCELLED);
        CHECK.due("its invoices stay", book.told(2, 5), 1);
        CHECK.amounts("what was SPENT stays", book, 0, 1000, 400, 309);
    }

    private static void leastAndMost() {
        FundBook book = Check.bookWith(1, 3000000000L);
        book.order(0, 1, false);
        book.order(0, 1000000000, false);
        CHECK.due("1 cent", book.cancel(0), 1);
        CHECK.due("the most", book.cancel(1), 1000000000);
        CHECK.amounts("both", book, 0, 3000000000L, 0, 0);
    }

    private static void noSuchOrder() {
        for (int order : new int[] {6, 299, 300, -1, -10, Integer.MIN_VALUE, Integer.MAX_VALUE}) {
            CHECK.refused("cancel(" + order + ")", CancelTest::scene, book -> book.cancel(order), FundBook.NONE);
        }
        FundBook book = Check.bookWith(1, 1000);
        for (int order = 0; order < 300; order++) {
            book.order(0, 1, false);
        }
        CHECK.due("the last of all orders", book.cancel(299), 1);
        CHECK.due("beyond all orders", book.cancel(300), FundBook.NONE);
    }

    private static void doneOrCancelled() {
        CHECK.refused("one that is DONE", CancelTest::scene, book -> book.cancel(3), FundBook.STATE);
        CHECK.refused("one that was PLACED", CancelTest::scene, book -> book.cancel(4), FundBook.STATE);
        CHECK.refused("one that was ASKED", CancelTest::scene, book -> book.cancel(5), FundBook.STATE);
    }

    private static void freedForOthers() {
        FundBook book = Check.bookWith(1, 100);
        book.order(0, 100, false);
        CHECK.due("with nothing FREE", book.order(0, 100, false), -11);
        book.cancel(0);
        CHECK.due("the ASKED one stays so", book.told(1, 2), 0);
        CHECK.due("with all FREE again", book.order(0, 100, false), 2);
    }
}
