/**
 * Promise 16, about: "Of a fund, what 0: GIVEN, 1: ENCUMBERED, 2: SPENT, 3: FREE; -1000000000000000001 if there is
 * none such, or for another what."
 */
public final class AboutTest {
    private static final Check CHECK = new Check("16 about");

    public static void main(String[] args) {
        eachWhat();
        freeMayBeBelowZero();
        anotherWhat();
        noSuchFund();
        firstAndLastFund();
        nothingHappens();
        CHECK.end();
    }

    private static FundBook scene() {
        FundBook book = Check.bookWith(2, 1000);
        book.order(0, 300, false);
        book.order(0, 200, false);
        book.invoice(1, 210, 0, 0);
        return book;
    }

    private static void eachWhat() {
        FundBook book = scene();
        CHECK.due("GIVEN", book.about(0, 0), 1000);
        CHECK.due("ENCUMBERED", book.about(0, 1), 300);
        CHECK.due("SPENT", book.about(0, 2), 210);
        CHECK.due("FREE", book.about(0, 3), 490);
        CHECK.amounts("the other fund", book, 1, 1000, 0, 0);
    }

    /** "FREE is GIVEN less both (it may be below 0)" */
    private static void freeMayBeBelowZero() {
        FundBook book = Check.bookWith(1, 0);
        book.order(0, 1000000000, false);
        Check.approveByTwo(book, 0);
        CHECK.due("by what is ENCUMBERED", book.about(0, 3), -1000000000);
        book.invoice(0, 1000000000, 0, 0);
        CHECK.due("by what is SPENT", book.about(0, 3), -1000000000);
        CHECK.amounts("it was SPENT", book, 0, 0, 0, 1000000000);
    }

    private static void anotherWhat() {
        for (int what : new int[] {-1, 4, 5, Integer.MIN_VALUE, Integer.MAX_VALUE}) {
            CHECK.due("about(0, " + what + ")", scene().about(0, what), Check.NOTHING);
        }
    }

    private static void noSuchFund() {
        FundBook book = scene();
        for (int fund : new int[] {2, 29, 30, -1, Integer.MIN_VALUE, Integer.MAX_VALUE}) {
            for (int what = -1; what < 5; what++) {
                CHECK.due("about(" + fund + ", " + what + ")", book.about(fund, what), Check.NOTHING);
            }
        }
        CHECK.due("of a new object", new FundBook(2030).about(0, 3), Check.NOTHING);
    }

    private static void firstAndLastFund() {
        FundBook book = Check.bookWith(30, 0);
        book.give(0, 5);
        book.give(29, 6);
        CHECK.amounts("the first fund", book, 0, 5, 0, 0);
        CHECK.amounts("the last fund", book, 29, 6, 0, 0);
        CHECK.due("beyond all funds", book.about(30, 0), Check.NOTHING);
    }

    private static void nothingHappens() {
        CHECK.refused("about(0, 4)", AboutTest::scene, book -> book.about(0, 4), Check.NOTHING);
        CHECK.refused("about(2, 0)", AboutTest::scene, book -> book.about(2, 0), Check.NOTHING);
    }
}
