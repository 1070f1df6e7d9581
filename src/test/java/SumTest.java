/**
 * Promise 18, sum: "Which 0: what all funds together have been GIVEN; 1: the year; 2, 3: how many orders, transfers
 * there are; NONE for another one."
 */
public final class SumTest {
    private static final Check CHECK = new Check("18 sum");

    public static void main(String[] args) {
        nothingAtAll();
        givenToAllFunds();
        whatChangesNoSum();
        howManyOrders();
        howManyTransfers();
        anotherWhich();
        CHECK.end();
    }

    private static FundBook scene() {
        FundBook book = Check.bookWith(3, 1000);
        book.order(0, 300, false);
        book.transfer(0, 1, 10);
        return book;
    }

    private static void nothingAtAll() {
        FundBook book = new FundBook(2030);
        long[] want = {0, 2030, 0, 0};
        for (int which = 0; which < 4; which++) {
            CHECK.due("sum(" + which + ")", book.sum(which), want[which]);
        }
        book.fund(1);
        CHECK.due("sum(0) of a fund without a gift", book.sum(0), 0);
    }

    private static void givenToAllFunds() {
        FundBook book = Check.bookWith(30, 0);
        long total = 0;
        for (int fund = 0; fund < 30; fund++) {
            for (int gift = 0; gift < 10; gift++) {
                book.give(fund, 1000000000000L - fund);
                total += 1000000000000L - fund;
            }
        }
        CHECK.due("sum(0) of all funds", book.sum(0), total);
        book.close();
        CHECK.due("sum(0) in the next year", book.sum(0), total);
    }

    /** What is GIVEN only moves by a transfer or a batch, and does not by an order or an invoice. */
    private static void whatChangesNoSum() {
        FundBook book = scene();
        book.agree(0, 1);
        book.agree(0, 2);
        CHECK.due("a transfer", book.sum(0), 3000);
        book.row(0, -10);
        book.row(2, 10);
        book.post();
        CHECK.due("a batch", book.sum(0), 3000);
        book.invoice(0, 310, 0, 0);
        CHECK.due("an invoice", book.sum(0), 3000);
        book.close();
        CHECK.due("what was SPENT is gone with the year", book.sum(0), 2690);
    }

    private static void howManyOrders() {
        FundBook book = scene();
        book.order(0, 30000, false);
        CHECK.due("one is PLACED, one is ASKED", book.sum(2), 2);
        book.cancel(0);
        CHECK.due("a CANCELLED one counts", book.sum(2), 2);
        book.order(0, 0, false);
        CHECK.due("a refused one does not", book.sum(2), 2);
        for (int order = 2; order < 300; order++) {
            book.order(0, 1, false);
        }
        CHECK.due("all orders", book.sum(2), 300);
        book.order(0, 1, false);
        CHECK.due("one too many", book.sum(2), 300);
    }

    private static void howManyTransfers() {
        FundBook book = scene();
        CHECK.due("one is ASKED", book.sum(3), 1);
        book.agree(0, 1);
        book.agree(0, 2);
        CHECK.due("one that has happened counts", book.sum(3), 1);
        book.transfer(0, 0, 1);
        CHECK.due("a refused one does not", book.sum(3), 1);
        for (int transfer = 1; transfer < 100; transfer++) {
            book.transfer(0, 1, 1);
        }
        CHECK.due("all transfers", book.sum(3), 100);
        book.transfer(0, 1, 1);
        CHECK.due("one too many", book.sum(3), 100);
    }

    private static void anotherWhich() {
        for (int which : new int[] {-1, 4, 5, Integer.MIN_VALUE, Integer.MAX_VALUE}) {
            CHECK.refused("sum(" + which + ")", SumTest::scene, book -> book.sum(which), FundBook.NONE);
        }
    }
}
