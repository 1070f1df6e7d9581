/** Promise 15 close. */
public final class CloseTest {
    private static final Check CHECK = new Check("close");

    public static void main(String[] args) {
        years();
        carried();
        carriedOfNothing();
        carriedBelowZero();
        whatGoesOn();
        CHECK.end();
    }

    private static void years() {
        FundBook book = new FundBook(9997);
        CHECK.due("close()", book.close(), 9998);
        CHECK.due("close()", book.close(), 9999);
        CHECK.due("in the last year", book.close(), FundBook.STATE);
        CHECK.due("the year", book.sum(1), 9999);
        book.fund(0);
        book.give(0, 5);
        CHECK.due("in the last year", book.close(), FundBook.STATE);
        CHECK.amounts("nothing happens then", book, 0, 5, 0, 0);
    }

    private static void carried() {
        FundBook book = new FundBook(2030);
        for (int carry = 0; carry < 3; carry++) {
            book.fund(carry);
            book.give(carry, 1000);
            book.order(carry, 300, false);
            book.order(carry, 95, false);
            book.invoice(carry * 2 + 1, 99, 0, 0);
        }
        CHECK.amounts("before", book, 2, 1000, 300, 99);
        CHECK.due("close()", book.close(), 2031);
        CHECK.amounts("nothing carried", book, 0, 300, 300, 0);
        CHECK.amounts("all carried", book, 1, 901, 300, 0);
        CHECK.amounts("half carried, cut", book, 2, 600, 300, 0);
        CHECK.due("sum(0)", book.sum(0), 1801);
        CHECK.due("once more", book.close(), 2032);
        CHECK.amounts("nothing carried", book, 0, 300, 300, 0);
        CHECK.amounts("all carried", book, 1, 901, 300, 0);
        CHECK.amounts("half of the half", book, 2, 450, 300, 0);
    }

    private static void carriedOfNothing() {
        FundBook book = Check.bookWith(1, 100);
        book.order(0, 100, false);
        book.close();
        CHECK.amounts("FREE was 0", book, 0, 100, 100, 0);
    }

    private static void carriedBelowZero() {
        FundBook book = new FundBook(2030);
        for (int carry = 0; carry < 3; carry++) {
            book.fund(carry);
            book.give(carry, 10);
            book.order(carry, 511, false);
            book.approve(carry, 1);
            book.approve(carry, 2);
        }
        book.close();
        for (int carry = 0; carry < 3; carry++) {
            CHECK.amounts("FREE was below 0", book, carry, 511, 511, 0);
        }
    }

    private static void whatGoesOn() {
        FundBook book = Check.bookWith(2, 100);
        book.order(0, 50, false);
        book.order(0, 500, false);
        book.approve(1, 1);
        book.transfer(0, 1, 10);
        book.agree(0, 1);
        book.close();
        CHECK.due("an order is invoiced later", book.invoice(0, 50, 0, 400), 50);
        CHECK.due("approvals stay", book.approve(1, 1), FundBook.STATE);
        CHECK.due("approvals stay", book.approve(1, 2), 2);
        CHECK.due("a fund is short then", book.agree(0, 2), 1);
        book.cancel(1);
        CHECK.due("agreements stay", book.agree(0, 3), 2);
        CHECK.amounts("after all", book, 0, 90, 0, 50);
        CHECK.amounts("after all", book, 1, 110, 0, 0);
    }
}
