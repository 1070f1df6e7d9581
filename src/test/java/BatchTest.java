/** Promises 12 row, 13 post, 14 failing. */
public final class BatchTest {
    private static final Check CHECK = new Check("batch");

    public static void main(String[] args) {
        rows();
        posting();
        sumIsWrong();
        fundIsShort();
        rowsCountTogether();
        shortBeforePosting();
        failingIsKept();
        amountsAtThePost();
        CHECK.end();
    }

    private static void rows() {
        FundBook book = Check.bookWith(2, 100);
        CHECK.due("row(2, ..)", book.row(2, 1), FundBook.NONE);
        CHECK.due("row(-1, ..)", book.row(-1, 1), FundBook.NONE);
        CHECK.due("more than the most", book.row(0, 1000000001), FundBook.RANGE);
        CHECK.due("less than the least", book.row(0, -1000000001), FundBook.RANGE);
        CHECK.due("the least int", book.row(0, Integer.MIN_VALUE), FundBook.RANGE);
        CHECK.due("NONE comes before RANGE", book.row(2, 1000000001), FundBook.NONE);
        CHECK.due("the most", book.row(0, 1000000000), 1);
        CHECK.due("the least", book.row(0, -1000000000), 2);
        for (int i = 3; i <= 20; i++) {
            CHECK.due("row " + i, book.row(1, 0), i);
        }
        CHECK.due("row 21", book.row(1, 0), FundBook.FULL);
        CHECK.due("RANGE comes before FULL", book.row(1, 1000000001), FundBook.RANGE);
        CHECK.amounts("rows only", book, 0, 100, 0, 0);
        CHECK.due("post()", book.post(), 20);
        CHECK.due("room again", book.row(1, 0), 1);
    }

    private static void posting() {
        FundBook book = Check.bookWith(3, 100);
        CHECK.due("an empty batch", book.post(), 0);
        book.row(0, -100);
        book.row(1, 60);
        book.row(2, 40);
        CHECK.due("post()", book.post(), 3);
        CHECK.amounts("posted", book, 0, 0, 0, 0);
        CHECK.amounts("posted", book, 1, 160, 0, 0);
        CHECK.amounts("posted", book, 2, 140, 0, 0);
        CHECK.due("empty again", book.post(), 0);
        CHECK.amounts("posted once", book, 1, 160, 0, 0);
        CHECK.due("nothing failed", book.failing(), FundBook.NONE);
    }

    private static void sumIsWrong() {
        FundBook book = Check.bookWith(3, 100);
        book.row(0, -10);
        book.row(2, 10);
        book.row(1, 1);
        CHECK.postThrows("a sum above 0", book);
        CHECK.due("the last row's fund", book.failing(), 1);
        CHECK.amounts("nothing happened", book, 0, 100, 0, 0);
        CHECK.amounts("nothing happened", book, 1, 100, 0, 0);
        CHECK.due("empty again", book.post(), 0);
        book.row(1, 10);
        book.row(2, -11);
        CHECK.postThrows("a sum below 0", book);
        CHECK.due("the last row's fund", book.failing(), 2);
        CHECK.due("empty again", book.row(0, 5), 1);
        CHECK.postThrows("a row alone", book);
        CHECK.due("its fund", book.failing(), 0);
        CHECK.amounts("nothing happened", book, 0, 100, 0, 0);
    }

    private static void fundIsShort() {
        FundBook book = Check.bookWith(4, 100);
        book.row(0, 202);
        book.row(2, -101);
        book.row(1, -101);
        CHECK.postThrows("two are short", book);
        CHECK.due("the first in the order of the rows", book.failing(), 2);
        CHECK.amounts("nothing happened", book, 0, 100, 0, 0);
        CHECK.amounts("nothing happened", book, 2, 100, 0, 0);
        CHECK.due("empty again", book.post(), 0);
        book.row(1, -101);
        book.row(0, 1);
        CHECK.postThrows("short, and the sum is wrong", book);
        CHECK.due("the one that is short", book.failing(), 1);
    }

    private static void rowsCountTogether() {
        FundBook book = Check.bookWith(2, 100);
        book.row(0, -150);
        book.row(1, 100);
        book.row(0, 50);
        CHECK.due("short only by one of its rows", book.post(), 3);
        CHECK.amounts("all rows together", book, 0, 0, 0, 0);
        CHECK.amounts("all rows together", book, 1, 200, 0, 0);
        book.row(1, -150);
        book.row(0, 201);
        book.row(1, -51);
        CHECK.postThrows("short by both of its rows", book);
        CHECK.due("that fund", book.failing(), 1);
        CHECK.amounts("nothing happened", book, 1, 200, 0, 0);
    }

    private static void shortBeforePosting() {
        FundBook book = Check.bookWith(2, 100);
        book.order(0, 150, false);
        book.approve(0, 1);
        book.approve(0, 2);
        book.row(1, -49);
        book.row(0, 49);
        CHECK.postThrows("FREE stays below 0", book);
        CHECK.due("that fund", book.failing(), 0);
        book.row(1, -50);
        book.row(0, 50);
        CHECK.due("FREE comes to 0", book.post(), 2);
        CHECK.amounts("posted", book, 0, 150, 150, 0);
    }

    private static void failingIsKept() {
        FundBook book = Check.bookWith(2, 100);
        CHECK.due("none yet", book.failing(), FundBook.NONE);
        book.row(1, 5);
        CHECK.postThrows("the sum", book);
        book.row(1, -5);
        book.row(0, 5);
        CHECK.due("posted", book.post(), 2);
        CHECK.due("still the latest", book.failing(), 1);
        book.row(0, 5);
        CHECK.postThrows("the sum", book);
        CHECK.due("the latest", book.failing(), 0);
    }

    private static void amountsAtThePost() {
        FundBook book = Check.bookWith(2, 100);
        book.row(0, -80);
        book.row(1, 80);
        book.order(0, 30, false);
        CHECK.postThrows("encumbered since the row", book);
        CHECK.due("that fund", book.failing(), 0);
        book.row(0, -80);
        book.row(1, 80);
        book.close();
        book.give(0, 10);
        CHECK.due("the rows outlast a year", book.post(), 2);
        CHECK.amounts("posted", book, 0, 30, 30, 0);
        CHECK.amounts("posted", book, 1, 180, 0, 0);
    }
}
