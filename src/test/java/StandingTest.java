/**
 * Promise 6 for STANDING orders: "A STANDING order stays PLACED, with the same cents, until it is cancelled; it takes
 * an invoice in each month (a day divided by 30, cut) at most." STATE "also if it had one in that month or a later
 * one".
 */
public final class StandingTest {
    private static final Check CHECK = new Check("6 invoice, STANDING");
    private static final int PLACED = 1;

    public static void main(String[] args) {
        firstAndLastDayOfAMonth();
        theFirstMonth();
        theLastMonth();
        monthsThatAreLeftOut();
        asManyAsCanBe();
        untilItIsCancelled();
        monthsAreOfEachOrder();
        monthsOfLaterYears();
        CHECK.end();
    }

    /** Order 0 of 100 cents had an invoice on day 60, the first of month 2; order 1 on day 89, the last of it. */
    private static FundBook scene() {
        FundBook book = Check.bookWith(1, 1000);
        book.order(0, 100, true);
        book.order(0, 100, true);
        book.invoice(0, 100, 0, 60);
        book.invoice(1, 100, 0, 89);
        return book;
    }

    private static void firstAndLastDayOfAMonth() {
        for (int order = 0; order < 2; order++) {
            int number = order;
            for (int day : new int[] {60, 61, 88, 89}) {
                refused("day " + day + " of the same month", number, day);
            }
            for (int day : new int[] {0, 29, 30, 59}) {
                refused("day " + day + " of an earlier month", number, day);
            }
            FundBook book = scene();
            CHECK.due("the first day of the next month", book.invoice(number, 100, 0, 90), 100);
            CHECK.due("the last day of it", book.invoice(number, 100, 0, 119), FundBook.STATE);
            CHECK.due("the first day of the one after it", book.invoice(number, 100, 0, 120), 100);
            CHECK.due("its invoices", book.told(number, 5), 3);
        }
    }

    private static void theFirstMonth() {
        for (int day : new int[] {0, 29}) {
            FundBook book = Check.bookWith(1, 1000);
            book.order(0, 100, true);
            CHECK.due("day " + day, book.invoice(0, 100, 0, day), 100);
            CHECK.due("day 0 then", book.invoice(0, 100, 0, 0), FundBook.STATE);
            CHECK.due("day 29 then", book.invoice(0, 100, 0, 29), FundBook.STATE);
            CHECK.due("day 30 then", book.invoice(0, 100, 0, 30), 100);
        }
    }

    /** The days up to 100000 end within month 3333, which begins on day 99990. */
    private static void theLastMonth() {
        FundBook book = Check.bookWith(1, 1000);
        book.order(0, 100, true);
        CHECK.due("the last day of month 3332", book.invoice(0, 100, 0, 99989), 100);
        CHECK.due("the first day of month 3333", book.invoice(0, 100, 0, 99990), 100);
        CHECK.due("the last day of all", book.invoice(0, 100, 0, 100000), FundBook.STATE);
        CHECK.due("no month is left", book.invoice(0, 100, 0, 0), FundBook.STATE);
        CHECK.due("it stays PLACED", book.told(0, 2), PLACED);
        CHECK.amounts("two invoices", book, 0, 1000, 100, 200);
    }

    private static void monthsThatAreLeftOut() {
        FundBook book = scene();
        CHECK.due("month 5", book.invoice(0, 100, 0, 150), 100);
        CHECK.due("month 4, left out", book.invoice(0, 100, 0, 149), FundBook.STATE);
        CHECK.due("month 3, left out", book.invoice(0, 100, 0, 90), FundBook.STATE);
        CHECK.due("month 6", book.invoice(0, 100, 0, 180), 100);
    }

    private static void asManyAsCanBe() {
        FundBook book = Check.bookWith(1, 1000);
        book.order(0, 100, true);
        for (int month = 0; month < 500; month++) {
            CHECK.due("month " + month, book.invoice(0, 100, 0, month * 30 + month % 30), 100);
        }
        CHECK.due("its invoices", book.told(0, 5), 500);
        CHECK.amounts("500 invoices", book, 0, 1000, 100, 50000);
    }

    private static void untilItIsCancelled() {
        FundBook book = scene();
        CHECK.due("its state", book.told(0, 2), PLACED);
        CHECK.due("its cents", book.told(0, 1), 100);
        CHECK.due("cancel(0)", book.cancel(0), 100);
        CHECK.due("an invoice then", book.invoice(0, 100, 0, 90), FundBook.STATE);
        CHECK.amounts("what was SPENT stays", book, 0, 1000, 100, 200);
    }

    private static void monthsAreOfEachOrder() {
        FundBook book = scene();
        book.order(0, 100, true);
        book.order(0, 100, false);
        CHECK.due("another one in an earlier month", book.invoice(2, 100, 0, 0), 100);
        CHECK.due("another one in the same month", book.invoice(2, 100, 0, 60), 100);
        CHECK.due("one that is not STANDING", book.invoice(3, 100, 0, 60), 100);
    }

    private static void monthsOfLaterYears() {
        FundBook book = scene();
        book.close();
        CHECK.due("a new year frees no month", book.invoice(0, 100, 0, 89), FundBook.STATE);
        CHECK.due("nor does it end the order", book.invoice(0, 100, 0, 90), 100);
    }

    private static void refused(String why, int order, int day) {
        CHECK.refused(why, StandingTest::scene, book -> book.invoice(order, 100, 0, day), FundBook.STATE);
    }
}
