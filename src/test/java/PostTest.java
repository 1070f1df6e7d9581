/**
 * Promise 13, post: "The batch is POSTED: how many rows it had. IllegalStateException as told." It is POSTED "if the
 * sum is 0, and no fund of it would have FREE below 0 by it: GIVEN changes by all of them"; "the batch is empty again
 * in each case".
 */
public final class PostTest {
    private static final Check CHECK = new Check("13 post");

    public static void main(String[] args) {
        anEmptyBatch();
        givenChangesByAllRows();
        freeComesToZero();
        freeWouldBeBelowZero();
        freeIsWhatIsLeft();
        sumAboveOrBelowZero();
        sumsBeyondAnInt();
        rowsOfAFundCountTogether();
        freeWasBelowZero();
        rowsOfNoCents();
        amountsAtThePost();
        nothingHappensButTheBatchIsEmpty();
        rowsOfAnEarlierBatch();
        twentyRows();
        CHECK.end();
    }

    private static void anEmptyBatch() {
        CHECK.due("without a fund", new FundBook(2030).post(), 0);
        FundBook book = Check.bookWith(2, 100);
        CHECK.due("without a row", book.post(), 0);
        CHECK.due("once more", book.post(), 0);
        CHECK.amounts("nothing is posted", book, 0, 100, 0, 0);
        CHECK.due("failing()", book.failing(), FundBook.NONE);
    }

    private static void givenChangesByAllRows() {
        FundBook book = Check.bookWith(4, 100);
        book.row(0, -90);
        book.row(1, 60);
        book.row(2, 40);
        book.row(0, -10);
        CHECK.due("post()", book.post(), 4);
        CHECK.amounts("two rows", book, 0, 0, 0, 0);
        CHECK.amounts("a row", book, 1, 160, 0, 0);
        CHECK.amounts("a row", book, 2, 140, 0, 0);
        CHECK.amounts("no row", book, 3, 100, 0, 0);
        CHECK.due("the batch is empty again", book.post(), 0);
        CHECK.amounts("posted once", book, 1, 160, 0, 0);
        CHECK.due("the first row again", book.row(0, 0), 1);
    }

    private static void freeComesToZero() {
        FundBook book = Check.bookWith(2, 100);
        book.row(0, -100);
        book.row(1, 100);
        CHECK.due("FREE comes to 0", book.post(), 2);
        CHECK.amounts("FREE is 0", book, 0, 0, 0, 0);
    }

    private static void freeWouldBeBelowZero() {
        FundBook book = Check.bookWith(2, 100);
        book.row(0, -101);
        book.row(1, 101);
        CHECK.postThrows("FREE would be -1", book);
        CHECK.amounts("nothing happens", book, 0, 100, 0, 0);
        CHECK.amounts("nothing happens", book, 1, 100, 0, 0);
        book.row(0, 101);
        book.row(1, -101);
        CHECK.postThrows("FREE of the last row's fund would be -1", book);
        CHECK.due("failing()", book.failing(), 1);
    }

    /** FREE, not GIVEN: what is encumbered and what is spent can't be posted away. */
    private static void freeIsWhatIsLeft() {
        FundBook book = Check.bookWith(2, 100);
        book.order(0, 30, false);
        book.order(0, 20, false);
        book.invoice(1, 21, 0, 0);
        book.row(0, -50);
        book.row(1, 50);
        CHECK.postThrows("one more than is FREE", book);
        book.row(0, -49);
        book.row(1, 49);
        CHECK.due("all that is FREE", book.post(), 2);
        CHECK.amounts("only GIVEN changes", book, 0, 51, 30, 21);
    }

    private static void sumAboveOrBelowZero() {
        for (int more : new int[] {-1, 1}) {
            FundBook book = Check.bookWith(2, 100);
            book.row(0, -10);
            book.row(1, 10 + more);
            CHECK.postThrows("the sum is " + more, book);
            CHECK.amounts("nothing happens", book, 0, 100, 0, 0);
            CHECK.amounts("nothing happens", book, 1, 100, 0, 0);
            CHECK.due("the batch is empty again", book.post(), 0);
            book.row(1, more);
            CHECK.postThrows("a row alone", book);
            CHECK.amounts("nothing happens", book, 1, 100, 0, 0);
        }
    }

    /** Sums that an int would wrap to 0: 4 * 1000000000 + 294967296 is 2 to the 32nd. */
    private static void sumsBeyondAnInt() {
        for (int sign : new int[] {-1, 1}) {
            FundBook book = Check.bookWith(2, 5000000000L);
            for (int row = 0; row < 4; row++) {
                book.row(0, sign * 1000000000);
            }
            book.row(1, sign * 294967296);
            CHECK.postThrows("2 to the 32nd", book);
            CHECK.due("only the sum is wrong", book.failing(), 1);
            CHECK.amounts("nothing happens", book, 0, 5000000000L, 0, 0);
        }
    }

    private static void rowsOfAFundCountTogether() {
        FundBook book = Check.bookWith(2, 100);
        book.row(0, -150);
        book.row(1, 100);
        book.row(0, 50);
        CHECK.due("below 0 by its first row only", book.post(), 3);
        CHECK.amounts("all rows together", book, 0, 0, 0, 0);
        CHECK.amounts("all rows together", book, 1, 200, 0, 0);
        book.row(1, -150);
        book.row(0, 201);
        book.row(1, -51);
        CHECK.postThrows("below 0 by both of its rows", book);
        CHECK.amounts("nothing happens", book, 0, 0, 0, 0);
        CHECK.amounts("nothing happens", book, 1, 200, 0, 0);
    }

    private static FundBook shortScene() {
        FundBook book = Check.bookWith(2, 100);
        book.order(0, 150, false);
        Check.approveByTwo(book, 0);
        return book;
    }

    private static void freeWasBelowZero() {
        FundBook book = shortScene();
        book.row(1, -49);
        book.row(0, 49);
        CHECK.postThrows("FREE stays below 0", book);
        CHECK.due("that fund", book.failing(), 0);
        book.row(1, -50);
        book.row(0, 50);
        CHECK.due("FREE comes to 0", book.post(), 2);
        CHECK.amounts("posted", book, 0, 150, 150, 0);
        book = shortScene();
        book.give(1, 100);
        book.fund(0);
        book.row(1, -10);
        book.row(2, 10);
        CHECK.due("it is no fund of the batch", book.post(), 2);
        CHECK.amounts("posted", book, 1, 190, 0, 0);
    }

    private static void rowsOfNoCents() {
        FundBook book = Check.bookWith(2, 0);
        book.row(0, 0);
        book.row(1, 0);
        book.row(0, 0);
        CHECK.due("rows of no cents", book.post(), 3);
        CHECK.amounts("nothing FREE is enough", book, 0, 0, 0, 0);
    }

    private static void amountsAtThePost() {
        FundBook book = Check.bookWith(2, 100);
        book.row(0, -80);
        book.row(1, 80);
        book.order(0, 30, false);
        CHECK.postThrows("encumbered since the row", book);
        book.row(0, -80);
        book.row(1, 80);
        book.give(0, 10);
        CHECK.due("given since the row", book.post(), 2);
        CHECK.amounts("posted", book, 0, 30, 30, 0);
        book.row(1, -180);
        book.row(0, 180);
        book.close();
        CHECK.due("in the next year", book.post(), 2);
        CHECK.amounts("posted", book, 0, 210, 30, 0);
    }

    /** Fund 1 was failing before, so that a post that fails for it again changes nothing that can be told. */
    private static FundBook failedScene() {
        FundBook book = Check.bookWith(3, 1000);
        book.order(1, 100, true);
        book.row(1, 1);
        Check.answerOfPost(book);
        return book;
    }

    private static void nothingHappensButTheBatchIsEmpty() {
        CHECK.refused("the sum is above 0", PostTest::failedScene, book -> postRows(book, -10, 11), Check.THROWN);
        CHECK.refused("the sum is below 0", PostTest::failedScene, book -> postRows(book, -10, 9), Check.THROWN);
        CHECK.refused("a fund would be short", PostTest::failedScene, book -> postRows(book, 901, -901), Check.THROWN);
        CHECK.refused("both", PostTest::failedScene, book -> postRows(book, 1, -901), Check.THROWN);
    }

    private static long postRows(FundBook book, int first, int second) {
        book.row(0, first);
        book.row(1, second);
        return Check.answerOfPost(book);
    }

    /**
     * "the batch is empty again in each case": a fund of an earlier batch is none of this one, even if it is short
     * now.
     */
    private static void rowsOfAnEarlierBatch() {
        for (int last : new int[] {0, 1}) {
            FundBook book = Check.bookWith(4, 100);
            book.row(0, 0);
            book.row(1, 0);
            book.row(2, last);
            CHECK.due("the earlier batch", Check.answerOfPost(book), last == 0 ? 3 : Check.THROWN);
            book.order(2, 200, false);
            Check.approveByTwo(book, 0);
            CHECK.due("FREE of fund 2", book.about(2, 3), -100);
            book.row(0, -10);
            book.row(3, 10);
            CHECK.due("a batch without fund 2", Check.answerOfPost(book), 2);
            CHECK.amounts("posted", book, 3, 110, 0, 0);
            CHECK.due("an empty batch", Check.answerOfPost(book), 0);
        }
    }

    private static void twentyRows() {
        FundBook book = Check.bookWith(20, 100);
        for (int row = 0; row < 20; row++) {
            book.row(row, row < 10 ? -100 : 100);
        }
        CHECK.due("20 rows", book.post(), 20);
        for (int fund = 0; fund < 20; fund++) {
            CHECK.amounts("20 rows", book, fund, fund < 10 ? 0 : 200, 0, 0);
        }
        for (int row = 0; row < 20; row++) {
            book.row(row, row < 19 ? 0 : -201);
        }
        CHECK.postThrows("the last of 20 would be short", book);
        CHECK.due("that fund", book.failing(), 19);
    }
}
