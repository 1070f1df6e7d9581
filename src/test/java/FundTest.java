/** Promise 2, fund: "A fund more: its number. RANGE if there is no such CARRY; FULL." */
public final class FundTest {
    private static final Check CHECK = new Check("2 fund");

    public static void main(String[] args) {
        numbersOfAllFunds();
        aNewFundHasNothing();
        noSuchCarry();
        full();
        fullInALaterYear();
        rangeBeforeFull();
        CHECK.end();
    }

    /** "FUNDS are 0 .. 29" */
    private static void numbersOfAllFunds() {
        FundBook book = new FundBook(2030);
        for (int fund = 0; fund < 30; fund++) {
            CHECK.due("before fund " + fund, book.about(fund, 0), Check.NOTHING);
            CHECK.due("fund " + fund, book.fund(fund % 3), fund);
            CHECK.due("a gift to fund " + fund, book.give(fund, fund + 1), 1);
        }
        for (int fund = 0; fund < 30; fund++) {
            CHECK.amounts("all funds", book, fund, fund + 1, 0, 0);
        }
    }

    private static void aNewFundHasNothing() {
        FundBook book = new FundBook(2030);
        for (int carry = 0; carry < 3; carry++) {
            CHECK.due("fund(" + carry + ")", book.fund(carry), carry);
            CHECK.amounts("a new fund", book, carry, 0, 0, 0);
        }
    }

    /** "each of a CARRY: 0 nothing, 1 what is FREE, 2 half of it": the first that are none are -1 and 3. */
    private static void noSuchCarry() {
        for (int carry : new int[] {-1, 3, 4, Integer.MIN_VALUE, Integer.MAX_VALUE}) {
            CHECK.refused("fund(" + carry + ")", () -> new FundBook(2030), book -> book.fund(carry), FundBook.RANGE);
            CHECK.refused("fund(" + carry + ") as the third", () -> Check.bookWith(2, 100), book -> book.fund(carry),
                FundBook.RANGE);
        }
        FundBook book = new FundBook(2030);
        book.fund(3);
        CHECK.due("the first number is not used up by a refused fund", book.fund(2), 0);
    }

    private static void full() {
        for (int carry = 0; carry < 3; carry++) {
            int wanted = carry;
            CHECK.refused("fund 30", () -> Check.bookWith(30, 100), book -> book.fund(wanted), FundBook.FULL);
        }
        FundBook book = Check.bookWith(30, 100);
        book.fund(0);
        CHECK.due("about(30, 0)", book.about(30, 0), Check.NOTHING);
        CHECK.due("still full", book.fund(0), FundBook.FULL);
        CHECK.due("sum(0)", book.sum(0), 3000);
    }

    private static void fullInALaterYear() {
        FundBook book = Check.bookWith(30, 100);
        book.close();
        CHECK.due("fund 30 in the next year", book.fund(1), FundBook.FULL);
    }

    private static void rangeBeforeFull() {
        CHECK.refused("no such CARRY, and full", () -> Check.bookWith(30, 100), book -> book.fund(3), FundBook.RANGE);
        CHECK.refused("no such CARRY, and full", () -> Check.bookWith(30, 100), book -> book.fund(-1), FundBook.RANGE);
    }
}
