/**
 * Promise 15, close: "CLOSING: the year that begins. STATE in the year 9999." CLOSING: "each fund's GIVEN becomes
 * what is carried (0 if FREE is below 0) and what is ENCUMBERED, SPENT 0; the year is one more".
 */
public final class CloseTest {
    private static final Check CHECK = new Check("15 close");

    public static void main(String[] args) {
        theFirstYear();
        theLastYear();
        withoutAFund();
        eachCarry();
        halfIsCut();
        freeIsZero();
        freeIsBelowZero();
        allFunds();
        theMostThatCanBe();
        orderAndTransferGoOn();
        manyYears();
        CHECK.end();
    }

    /** Funds of CARRY 0, 1, 2 with these cents GIVEN, 300 ENCUMBERED and 99 SPENT. */
    private static FundBook scene(int year, long given) {
        FundBook book = new FundBook(year);
        for (int carry = 0; carry < 3; carry++) {
            book.fund(carry);
            book.give(carry, given);
            book.order(carry, 300, false);
            book.order(carry, 95, false);
            book.invoice(carry * 2 + 1, 99, 0, 0);
        }
        return book;
    }

    private static void theFirstYear() {
        FundBook book = new FundBook(0);
        CHECK.due("close()", book.close(), 1);
        CHECK.due("sum(1)", book.sum(1), 1);
    }

    private static void theLastYear() {
        FundBook book = scene(9997, 1000);
        CHECK.due("close() in 9997", book.close(), 9998);
        CHECK.due("close() in 9998", book.close(), 9999);
        CHECK.due("close() in 9999", book.close(), FundBook.STATE);
        CHECK.due("the year stays", book.sum(1), 9999);
        CHECK.refused("close() in 9999", () -> scene(9999, 1000), FundBook::close, FundBook.STATE);
        CHECK.refused("close() of the nearest year", () -> scene(12345, 1001), FundBook::close, FundBook.STATE);
    }

    private static void withoutAFund() {
        FundBook book = new FundBook(2030);
        CHECK.due("close()", book.close(), 2031);
        CHECK.due("sum(0)", book.sum(0), 0);
        CHECK.due("the first fund then", book.fund(0), 0);
        CHECK.amounts("the first fund then", book, 0, 0, 0, 0);
    }

    /** "a CARRY: 0 nothing, 1 what is FREE, 2 half of it (cut)" */
    private static void eachCarry() {
        FundBook book = scene(2030, 1000);
        CHECK.amounts("before", book, 2, 1000, 300, 99);
        CHECK.due("close()", book.close(), 2031);
        CHECK.amounts("nothing", book, 0, 300, 300, 0);
        CHECK.amounts("what is FREE", book, 1, 901, 300, 0);
        CHECK.amounts("half of it", book, 2, 600, 300, 0);
        CHECK.due("sum(0)", book.sum(0), 1801);
        CHECK.due("once more", book.close(), 2032);
        CHECK.amounts("nothing", book, 0, 300, 300, 0);
        CHECK.amounts("what is FREE", book, 1, 901, 300, 0);
        CHECK.amounts("half of the half", book, 2, 450, 300, 0);
    }

    private static void halfIsCut() {
        long[] free = {1, 2, 3, 4, 999999999999L, 1000000000000L};
        long[] half = {0, 1, 1, 2, 499999999999L, 500000000000L};
        for (int i = 0; i < free.length; i++) {
            FundBook book = new FundBook(2030);
            book.fund(2);
            book.give(0, free[i]);
            book.close();
            CHECK.amounts("half of " + free[i], book, 0, half[i], 0, 0);
        }
    }

    private static void freeIsZero() {
        FundBook book = scene(2030, 399);
        for (int fund = 0; fund < 3; fund++) {
            CHECK.amounts("before", book, fund, 399, 300, 99);
        }
        book.close();
        for (int fund = 0; fund < 3; fund++) {
            CHECK.amounts("FREE was 0", book, fund, 300, 300, 0);
        }
    }

    private static void freeIsBelowZero() {
        for (int less : new int[] {1, 2, 3, 4000}) {
            FundBook book = new FundBook(2030);
            for (int carry = 0; carry < 3; carry++) {
                book.fund(carry);
                book.give(carry, 10);
                book.order(carry, 10 + less, false);
                Check.approveByTwo(book, carry);
            }
            book.close();
            for (int carry = 0; carry < 3; carry++) {
                CHECK.amounts("FREE was -" + less, book, carry, 10 + less, 10 + less, 0);
            }
        }
        spentBelowZero();
    }

    private static void spentBelowZero() {
        FundBook book = new FundBook(2030);
        for (int carry = 0; carry < 3; carry++) {
            book.fund(carry);
            book.give(carry, 100);
            book.order(carry, 100, false);
            book.invoice(carry, 105, 0, 0);
        }
        book.close();
        for (int carry = 0; carry < 3; carry++) {
            CHECK.amounts("FREE was -5, nothing encumbered", book, carry, 0, 0, 0);
        }
    }

    private static void allFunds() {
        FundBook book = new FundBook(2030);
        for (int fund = 0; fund < 30; fund++) {
            book.fund(fund % 3);
            book.give(fund, 100 + fund);
        }
        book.close();
        for (int fund = 0; fund < 30; fund++) {
            long free = 100 + fund;
            CHECK.amounts("all funds", book, fund, fund % 3 == 0 ? 0 : fund % 3 == 1 ? free : free / 2, 0, 0);
        }
    }

    private static void theMostThatCanBe() {
        FundBook book = new FundBook(2030);
        for (int carry = 0; carry < 3; carry++) {
            book.fund(carry);
            for (int gift = 0; gift < 150; gift++) {
                book.give(carry, 1000000000000L);
            }
            book.order(carry, 1000000000, true);
        }
        book.close();
        CHECK.amounts("nothing", book, 0, 1000000000, 1000000000, 0);
        CHECK.amounts("what is FREE", book, 1, 150000000000000L, 1000000000, 0);
        CHECK.amounts("half of it", book, 2, 75000500000000L, 1000000000, 0);
    }

    private static void orderAndTransferGoOn() {
        FundBook book = Check.bookWith(2, 100);
        book.order(0, 50, false);
        book.order(0, 500, false);
        book.approve(1, 1);
        book.transfer(0, 1, 10);
        book.agree(0, 1);
        book.close();
        CHECK.due("orders", book.sum(2), 2);
        CHECK.due("transfers", book.sum(3), 1);
        CHECK.due("an order has its invoice later", book.invoice(0, 50, 0, 400), 50);
        CHECK.due("approvals stay", book.approve(1, 1), FundBook.STATE);
        CHECK.due("approvals stay", book.approve(1, 2), 2);
        CHECK.due("a fund is short then", book.agree(0, 2), 1);
        book.cancel(1);
        CHECK.due("agreements stay", book.agree(0, 3), 2);
        CHECK.amounts("after all", book, 0, 90, 0, 50);
        CHECK.amounts("after all", book, 1, 110, 0, 0);
    }

    private static void manyYears() {
        FundBook book = new FundBook(9500);
        book.fund(1);
        book.give(0, 7);
        for (int year = 9501; year <= 9999; year++) {
            CHECK.due("close()", book.close(), year);
        }
        CHECK.due("close() at last", book.close(), FundBook.STATE);
        CHECK.amounts("carried through all years", book, 0, 7, 0, 0);
    }
}
