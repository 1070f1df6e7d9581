/** Promises 1 A new object, 2 fund, 3 give, 16 about, 18 sum. */
public final class FundsTest {
    private static final Check CHECK = new Check("funds");

    public static void main(String[] args) {
        newObject();
        funds();
        gifts();
        about();
        sums();
        CHECK.end();
    }

    private static void newObject() {
        CHECK.due("year 2030", new FundBook(2030).sum(1), 2030);
        CHECK.due("year 0", new FundBook(0).sum(1), 0);
        CHECK.due("year -1", new FundBook(-1).sum(1), 0);
        CHECK.due("the least int as year", new FundBook(Integer.MIN_VALUE).sum(1), 0);
        CHECK.due("year 9999", new FundBook(9999).sum(1), 9999);
        CHECK.due("year 10000", new FundBook(10000).sum(1), 9999);
        CHECK.due("the greatest int as year", new FundBook(Integer.MAX_VALUE).sum(1), 9999);
        FundBook book = new FundBook(2030);
        CHECK.due("new: give(0, 1)", book.give(0, 1), FundBook.NONE);
        CHECK.due("new: about(0, 0)", book.about(0, 0), Check.NOTHING);
        CHECK.due("new: sum(0)", book.sum(0), 0);
        CHECK.due("new: sum(2)", book.sum(2), 0);
        CHECK.due("new: sum(3)", book.sum(3), 0);
        CHECK.due("new: failing()", book.failing(), FundBook.NONE);
    }

    private static void funds() {
        FundBook book = new FundBook(2030);
        CHECK.due("fund(-1)", book.fund(-1), FundBook.RANGE);
        CHECK.due("fund(3)", book.fund(3), FundBook.RANGE);
        for (int i = 0; i < 30; i++) {
            CHECK.due("fund " + i, book.fund(i % 3), i);
        }
        CHECK.due("fund 30", book.fund(0), FundBook.FULL);
        CHECK.due("no such CARRY comes before FULL", book.fund(3), FundBook.RANGE);
        CHECK.amounts("a new fund", book, 29, 0, 0, 0);
        CHECK.due("about(30, 0)", book.about(30, 0), Check.NOTHING);
    }

    private static void gifts() {
        FundBook book = Check.bookWith(2, 0);
        CHECK.due("give(0, 1)", book.give(0, 1), 1);
        CHECK.due("give(0, the most)", book.give(0, 1000000000000L), 1);
        CHECK.amounts("two gifts", book, 0, 1000000000001L, 0, 0);
        CHECK.amounts("no gift", book, 1, 0, 0, 0);
        CHECK.due("give(0, 0)", book.give(0, 0), FundBook.RANGE);
        CHECK.due("give(0, -1)", book.give(0, -1), FundBook.RANGE);
        CHECK.due("give(0, more than the most)", book.give(0, 1000000000001L), FundBook.RANGE);
        CHECK.due("give(0, the greatest long)", book.give(0, Long.MAX_VALUE), FundBook.RANGE);
        CHECK.due("give(0, the least long)", book.give(0, Long.MIN_VALUE), FundBook.RANGE);
        CHECK.due("give(2, 1)", book.give(2, 1), FundBook.NONE);
        CHECK.due("give(-1, 1)", book.give(-1, 1), FundBook.NONE);
        CHECK.due("NONE comes before RANGE", book.give(2, 0), FundBook.NONE);
        CHECK.amounts("refused gifts", book, 0, 1000000000001L, 0, 0);
        giftsAreNotFullWithinTheCalls();
    }

    private static void giftsAreNotFullWithinTheCalls() {
        FundBook book = Check.bookWith(1, 0);
        for (int i = 0; i < 500; i++) {
            CHECK.due("gift " + i, book.give(0, 1000000000000L), 1);
        }
        CHECK.amounts("500 gifts", book, 0, 500000000000000L, 0, 0);
    }

    private static void about() {
        FundBook book = Check.bookWith(2, 1000);
        book.order(0, 300, false);
        book.order(0, 200, false);
        book.invoice(1, 210, 0, 0);
        CHECK.due("GIVEN", book.about(0, 0), 1000);
        CHECK.due("ENCUMBERED", book.about(0, 1), 300);
        CHECK.due("SPENT", book.about(0, 2), 210);
        CHECK.due("FREE", book.about(0, 3), 490);
        CHECK.amounts("the other fund", book, 1, 1000, 0, 0);
        CHECK.due("about(0, -1)", book.about(0, -1), Check.NOTHING);
        CHECK.due("about(0, 4)", book.about(0, 4), Check.NOTHING);
        CHECK.due("about(2, 0)", book.about(2, 0), Check.NOTHING);
        CHECK.due("about(-1, 0)", book.about(-1, 0), Check.NOTHING);
        CHECK.due("about(the greatest int, 0)", book.about(Integer.MAX_VALUE, 0), Check.NOTHING);
        CHECK.due("about(the least int, 0)", book.about(Integer.MIN_VALUE, 0), Check.NOTHING);
    }

    private static void sums() {
        FundBook book = Check.bookWith(3, 1000);
        book.give(2, 5);
        book.order(0, 300, false);
        book.order(0, 3000, false);
        book.cancel(0);
        book.order(0, 0, false);
        book.transfer(0, 1, 10);
        book.transfer(0, 0, 10);
        CHECK.due("sum(0)", book.sum(0), 3005);
        CHECK.due("sum(1)", book.sum(1), 2030);
        CHECK.due("sum(2)", book.sum(2), 2);
        CHECK.due("sum(3)", book.sum(3), 1);
        CHECK.due("sum(-1)", book.sum(-1), FundBook.NONE);
        CHECK.due("sum(4)", book.sum(4), FundBook.NONE);
    }
}
