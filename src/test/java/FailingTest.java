/**
 * Promise 14, failing: "The fund that FAILING told latest; NONE if none was." FAILING is "the first fund, in the
 * order of the rows, that would have FREE below 0 by all rows together, or that of the last row if only the sum is
 * wrong".
 */
public final class FailingTest {
    private static final Check CHECK = new Check("14 failing");

    public static void main(String[] args) {
        noneYet();
        theFirstInTheOrderOfTheRows();
        byAllRowsTogether();
        onlyTheSumIsWrong();
        theSumIsWrongToo();
        firstAndLastFund();
        theLatest();
        afterALongerBatch();
        CHECK.end();
    }

    private static void failingOf(String why, int want, int[] funds, int[] cents) {
        FundBook book = Check.bookWith(4, 100);
        for (int row = 0; row < funds.length; row++) {
            book.row(funds[row], cents[row]);
        }
        CHECK.due(why + ": before the post", book.failing(), FundBook.NONE);
        CHECK.postThrows(why, book);
        CHECK.due(why + ": failing()", book.failing(), want);
        CHECK.due(why + ": failing() again", book.failing(), want);
    }

    private static void noneYet() {
        FundBook book = new FundBook(2030);
        CHECK.due("of a new object", book.failing(), FundBook.NONE);
        book.fund(0);
        book.fund(0);
        book.give(0, 10);
        book.row(0, -10);
        CHECK.due("with a row", book.failing(), FundBook.NONE);
        book.row(1, 10);
        book.post();
        CHECK.due("after a batch that was POSTED", book.failing(), FundBook.NONE);
        book.post();
        CHECK.due("after an empty batch", book.failing(), FundBook.NONE);
    }

    private static void theFirstInTheOrderOfTheRows() {
        failingOf("not the least number", 2, new int[] {0, 2, 1}, new int[] {202, -101, -101});
        failingOf("not the greatest number", 1, new int[] {0, 1, 2}, new int[] {202, -101, -101});
        failingOf("the last row's", 3, new int[] {0, 1, 3}, new int[] {50, 51, -101});
        failingOf("not the one that is most short", 1, new int[] {1, 2, 3}, new int[] {-101, -500, 601});
    }

    private static void byAllRowsTogether() {
        failingOf("not the one that is short in between", 2, new int[] {1, 2, 1}, new int[] {-150, -101, 251});
        failingOf("where its first row stands", 1, new int[] {1, 2, 1, 0}, new int[] {-1, -101, -100, 202});
        failingOf("by its later row", 3, new int[] {3, 0, 3}, new int[] {50, 101, -151});
    }

    private static void onlyTheSumIsWrong() {
        failingOf("above 0", 1, new int[] {0, 2, 1}, new int[] {-10, 10, 1});
        failingOf("below 0", 3, new int[] {1, 3}, new int[] {10, -11});
        failingOf("a last row of no cents", 0, new int[] {2, 0}, new int[] {1, 0});
        failingOf("a row alone", 2, new int[] {2}, new int[] {1});
        failingOf("a row alone that takes all", 2, new int[] {2}, new int[] {-100});
    }

    private static void theSumIsWrongToo() {
        failingOf("a fund that is short counts", 1, new int[] {1, 0}, new int[] {-101, 1});
        failingOf("a row alone", 3, new int[] {3}, new int[] {-101});
        failingOf("the last row's is not short", 2, new int[] {0, 2, 0}, new int[] {5, -101, 5});
    }

    private static void firstAndLastFund() {
        FundBook book = Check.bookWith(30, 100);
        book.row(29, 1);
        CHECK.postThrows("fund 29", book);
        CHECK.due("fund 29", book.failing(), 29);
        book.row(0, 1);
        CHECK.postThrows("fund 0", book);
        CHECK.due("fund 0", book.failing(), 0);
    }

    private static void theLatest() {
        FundBook book = Check.bookWith(2, 100);
        book.row(1, 5);
        CHECK.postThrows("the first that failed", book);
        book.row(1, -5);
        book.row(0, 5);
        CHECK.due("one that was POSTED", book.post(), 2);
        CHECK.due("still the latest", book.failing(), 1);
        book.row(0, 5);
        CHECK.due("a row does not change it", book.failing(), 1);
        CHECK.postThrows("the second that failed", book);
        CHECK.due("the latest", book.failing(), 0);
        book.close();
        CHECK.due("in the next year", book.failing(), 0);
    }

    private static void afterALongerBatch() {
        FundBook book = Check.bookWith(3, 100);
        book.row(0, 0);
        book.row(1, -1);
        book.row(2, 1);
        book.post();
        book.row(0, 0);
        book.row(1, 1);
        CHECK.postThrows("a shorter one", book);
        CHECK.due("that of its last row", book.failing(), 1);
        book.row(0, 1);
        CHECK.postThrows("one that is shorter still", book);
        CHECK.due("that of its last row", book.failing(), 0);
    }
}
