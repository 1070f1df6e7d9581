/** Promise 1, A new object: "A year, 0 .. 9999 (what is less or more is the nearest); no funds." */
public final class NewObjectTest {
    private static final Check CHECK = new Check("1 a new object");

    public static void main(String[] args) {
        aYearOfTheRange();
        lessIsTheNearest();
        moreIsTheNearest();
        theNearestIsAYearLikeAnother();
        noFunds();
        nothingElse();
        CHECK.end();
    }

    private static void aYearOfTheRange() {
        for (int year : new int[] {0, 1, 2030, 9998, 9999}) {
            CHECK.due("the year of FundBook(" + year + ")", new FundBook(year).sum(1), year);
        }
    }

    private static void lessIsTheNearest() {
        for (int year : new int[] {-1, -2, -9999, Integer.MIN_VALUE}) {
            CHECK.due("the year of FundBook(" + year + ")", new FundBook(year).sum(1), 0);
        }
    }

    private static void moreIsTheNearest() {
        for (int year : new int[] {10000, 10001, 65536, Integer.MAX_VALUE}) {
            CHECK.due("the year of FundBook(" + year + ")", new FundBook(year).sum(1), 9999);
        }
    }

    private static void theNearestIsAYearLikeAnother() {
        CHECK.due("close() of FundBook(-5)", new FundBook(-5).close(), 1);
        CHECK.due("close() of FundBook(9998)", new FundBook(9998).close(), 9999);
        CHECK.due("close() of FundBook(10000)", new FundBook(10000).close(), FundBook.STATE);
    }

    private static void noFunds() {
        FundBook book = new FundBook(2030);
        CHECK.due("give(0, 1)", book.give(0, 1), FundBook.NONE);
        CHECK.due("order(0, 1, false)", book.order(0, 1, false), FundBook.NONE);
        CHECK.due("transfer(0, 1, 1)", book.transfer(0, 1, 1), FundBook.NONE);
        CHECK.due("row(0, 0)", book.row(0, 0), FundBook.NONE);
        CHECK.due("about(0, 0)", book.about(0, 0), Check.NOTHING);
        CHECK.due("sum(0)", book.sum(0), 0);
        CHECK.due("the first fund's number", book.fund(0), 0);
    }

    private static void nothingElse() {
        FundBook book = new FundBook(2030);
        CHECK.due("orders", book.sum(2), 0);
        CHECK.due("transfers", book.sum(3), 0);
        CHECK.due("failing()", book.failing(), FundBook.NONE);
        CHECK.due("post()", book.post(), 0);
        CHECK.due("approve(0, 0)", book.approve(0, 0), FundBook.NONE);
        CHECK.due("invoice(0, 1, 0, 0)", book.invoice(0, 1, 0, 0), FundBook.NONE);
        CHECK.due("cancel(0)", book.cancel(0), FundBook.NONE);
        CHECK.due("agree(0, 0)", book.agree(0, 0), FundBook.NONE);
        CHECK.due("told(0, 0)", book.told(0, 0), Check.NOTHING);
        CHECK.due("close() without a fund", book.close(), 2031);
    }
}
