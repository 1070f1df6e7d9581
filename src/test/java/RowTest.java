/**
 * Promise 12, row: "A row more in the batch, cents -1000000000 .. 1000000000: how many it has. NONE, RANGE; FULL if
 * it has 20."
 */
public final class RowTest {
    private static final Check CHECK = new Check("12 row");
    private static final int MOST = 1000000000;

    public static void main(String[] args) {
        leastAndMost();
        noCents();
        upToTwenty();
        full();
        roomAgainAfterAPost();
        onlyAPostCounts();
        tooFewOrTooMany();
        noSuchFund();
        firstReasonCounts();
        refusedRowsAreNotPosted();
        CHECK.end();
    }

    /** The batch has two rows. */
    private static FundBook scene() {
        FundBook book = Check.bookWith(3, 1000);
        book.row(0, -100);
        book.row(1, 100);
        return book;
    }

    private static FundBook fullScene() {
        FundBook book = Check.bookWith(3, 1000);
        for (int row = 0; row < 20; row++) {
            book.row(row % 3, row % 2 == 0 ? -10 : 10);
        }
        return book;
    }

    private static void leastAndMost() {
        FundBook book = Check.bookWith(2, MOST);
        CHECK.due("the least", book.row(0, -MOST), 1);
        CHECK.due("the most", book.row(1, MOST), 2);
        CHECK.due("post()", book.post(), 2);
        CHECK.amounts("the least", book, 0, 0, 0, 0);
        CHECK.amounts("the most", book, 1, 2L * MOST, 0, 0);
    }

    private static void noCents() {
        FundBook book = Check.bookWith(1, 0);
        CHECK.due("row(0, 0)", book.row(0, 0), 1);
        CHECK.due("post()", book.post(), 1);
        CHECK.amounts("no cents", book, 0, 0, 0, 0);
    }

    /** "A BATCH is a row of up to 20 rows": all of them count, also if their cents are beyond an int together. */
    private static void upToTwenty() {
        FundBook book = Check.bookWith(2, 10L * MOST);
        for (int row = 1; row <= 20; row++) {
            CHECK.due("row " + row, book.row(row % 2, row % 2 == 0 ? -MOST : MOST), row);
        }
        CHECK.due("post()", book.post(), 20);
        CHECK.amounts("ten rows", book, 0, 0, 0, 0);
        CHECK.amounts("ten rows", book, 1, 20L * MOST, 0, 0);
    }

    private static void full() {
        CHECK.refused("row 21", RowTest::fullScene, book -> book.row(0, 1), FundBook.FULL);
        CHECK.refused("row 21 of no cents", RowTest::fullScene, book -> book.row(2, 0), FundBook.FULL);
        FundBook book = fullScene();
        book.row(0, 1);
        CHECK.due("still full", book.row(0, -1), FundBook.FULL);
        CHECK.due("only 20 are posted", book.post(), 20);
        CHECK.due("sum(0)", book.sum(0), 3000);
    }

    private static void roomAgainAfterAPost() {
        FundBook book = fullScene();
        book.post();
        for (int row = 1; row <= 20; row++) {
            CHECK.due("row " + row + " after a post", book.row(0, 1), row);
        }
        CHECK.postThrows("the sum is 20", book);
        CHECK.due("row 1 after a post that failed", book.row(0, 1), 1);
    }

    private static void onlyAPostCounts() {
        FundBook book = scene();
        CHECK.amounts("rows only", book, 0, 1000, 0, 0);
        CHECK.amounts("rows only", book, 1, 1000, 0, 0);
        CHECK.due("rows don't encumber", book.order(0, 1000, false), 0);
        book.close();
        CHECK.due("rows outlast a year", book.row(2, 0), 3);
    }

    private static void tooFewOrTooMany() {
        for (int cents : new int[] {MOST + 1, -MOST - 1, Integer.MIN_VALUE, Integer.MAX_VALUE}) {
            CHECK.refused("row(0, " + cents + ")", RowTest::scene, book -> book.row(0, cents), FundBook.RANGE);
            CHECK.refused("row(2, " + cents + ")", RowTest::scene, book -> book.row(2, cents), FundBook.RANGE);
        }
    }

    private static void noSuchFund() {
        for (int fund : new int[] {3, 29, 30, -1, Integer.MIN_VALUE, Integer.MAX_VALUE}) {
            CHECK.refused("row(" + fund + ", 0)", RowTest::scene, book -> book.row(fund, 0), FundBook.NONE);
            CHECK.refused("row(" + fund + ", 5)", RowTest::scene, book -> book.row(fund, 5), FundBook.NONE);
        }
        FundBook book = Check.bookWith(30, 100);
        CHECK.due("the last of all funds", book.row(29, 0), 1);
        CHECK.due("beyond all funds", book.row(30, 0), FundBook.NONE);
    }

    private static void firstReasonCounts() {
        CHECK.refused("NONE, RANGE", RowTest::scene, book -> book.row(3, MOST + 1), FundBook.NONE);
        CHECK.refused("NONE, FULL", RowTest::fullScene, book -> book.row(-1, 0), FundBook.NONE);
        CHECK.refused("RANGE, FULL", RowTest::fullScene, book -> book.row(0, MOST + 1), FundBook.RANGE);
        CHECK.refused("RANGE, FULL", RowTest::fullScene, book -> book.row(0, -MOST - 1), FundBook.RANGE);
    }

    private static void refusedRowsAreNotPosted() {
        FundBook book = scene();
        book.row(3, 5);
        book.row(0, MOST + 1);
        book.row(-1, -7);
        CHECK.due("two rows", book.post(), 2);
        CHECK.amounts("two rows", book, 0, 900, 0, 0);
        CHECK.amounts("two rows", book, 1, 1100, 0, 0);
        book = fullScene();
        book.row(2, 5);
        CHECK.due("20 rows", book.post(), 20);
        CHECK.due("sum(0)", book.sum(0), 3000);
    }
}
