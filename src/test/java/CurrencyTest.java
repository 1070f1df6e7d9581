/**
 * Promise 9, currency: "A currency's row, from a day on, up and down 1 .. 1000000: 1. NONE if there is no such
 * currency; RANGE; STATE if it has one with that day or a later one; FULL if it has 10."
 */
public final class CurrencyTest {
    private static final Check CHECK = new Check("9 currency");
    private static final int MOST = 1000000;
    private static final int LAST_DAY = 100000;

    public static void main(String[] args) {
        firstAndLastCurrency();
        leastAndMost();
        firstAndLastDay();
        theLatestRowNotAboveTheDay();
        cut();
        currencyOfTheHouse();
        noSuchCurrency();
        tooLittleOrTooMuch();
        noSuchDay();
        thatDayOrALaterOne();
        tenRows();
        full();
        firstReasonCounts();
        CHECK.end();
    }

    /** Currency 1 has a row of 1 / 2 from day 10 on; fund 0 has STANDING orders of 50, 100 and 200 cents. */
    private static FundBook scene() {
        FundBook book = Check.bookWith(1, 1000);
        book.currency(1, 10, 1, 2);
        book.order(0, 50, true);
        book.order(0, 100, true);
        book.order(0, 200, true);
        return book;
    }

    /** Currency 1 has ten rows, of days 10, 20 .. 100, each of 1 / its number. */
    private static FundBook fullScene() {
        FundBook book = Check.bookWith(1, 1000);
        for (int row = 1; row <= 10; row++) {
            book.currency(1, 10 * row, 1, row);
        }
        book.order(0, 100, true);
        return book;
    }

    private static void firstAndLastCurrency() {
        FundBook book = new FundBook(2030);
        for (int currency = 0; currency < 10; currency++) {
            CHECK.due("currency " + currency, book.currency(currency, 5, 1, 1), 1);
        }
    }

    private static void leastAndMost() {
        FundBook book = Check.bookWith(1, 5000000000L);
        CHECK.due("1 / 1", book.currency(1, 0, 1, 1), 1);
        CHECK.due("the most / 1", book.currency(2, 0, MOST, 1), 1);
        CHECK.due("1 / the most", book.currency(3, 0, 1, MOST), 1);
        CHECK.due("the most / the most", book.currency(4, 0, MOST, MOST), 1);
        book.order(0, 1000000000, true);
        CHECK.due("1 / 1", book.invoice(0, 1000000000, 1, 0), 1000000000);
        CHECK.due("the most / 1", book.invoice(0, 1000, 2, 30), 1000000000);
        CHECK.due("the most / the most", book.invoice(0, 1000000000, 4, 60), 1000000000);
        book.order(0, 1000, true);
        CHECK.due("1 / the most", book.invoice(1, 1000000000, 3, 0), 1000);
    }

    private static void firstAndLastDay() {
        FundBook book = Check.bookWith(1, 1000);
        book.order(0, 100, true);
        CHECK.due("day 0", book.currency(1, 0, 1, 2), 1);
        CHECK.due("day 100000", book.currency(1, LAST_DAY, 1, 4), 1);
        CHECK.due("an invoice of day 0", book.invoice(0, 200, 1, 0), 100);
        CHECK.due("an invoice of day 99989", book.invoice(0, 200, 1, LAST_DAY - 11), 100);
        CHECK.due("an invoice of day 100000", book.invoice(0, 400, 1, LAST_DAY), 100);
    }

    /** "the latest row of that currency with a day not above that of the invoice" */
    private static void theLatestRowNotAboveTheDay() {
        FundBook book = Check.bookWith(1, 100000);
        book.band(1000);
        book.currency(1, 10, 2, 1);
        book.currency(1, 40, 3, 1);
        book.currency(1, 41, 4, 1);
        book.currency(2, 0, 7, 1);
        int[] days = {10, 11, 39, 40, 41, 42, LAST_DAY};
        int[] ups = {2, 2, 2, 3, 4, 4, 4};
        CHECK.due("day 0", invoiceOfANewOrder(book, 1, 0), FundBook.CURRENCY);
        CHECK.due("day 9", invoiceOfANewOrder(book, 1, 9), FundBook.CURRENCY);
        for (int i = 0; i < days.length; i++) {
            CHECK.due("day " + days[i], invoiceOfANewOrder(book, 1, days[i]), 10 * ups[i]);
        }
        CHECK.due("another currency", invoiceOfANewOrder(book, 2, 9), 70);
        CHECK.due("one without a row", invoiceOfANewOrder(book, 3, LAST_DAY), FundBook.CURRENCY);
    }

    private static long invoiceOfANewOrder(FundBook book, int currency, int day) {
        int order = book.order(0, 50, false);
        return book.invoice(order, 10, currency, day);
    }

    /** "times up divided by down .., cut" */
    private static void cut() {
        FundBook book = Check.bookWith(1, 100000);
        book.band(1000);
        book.currency(1, 0, 2, 3);
        int[] cents = {1, 2, 3, 4, 5, 100, 101};
        int[] house = {0, 1, 2, 2, 3, 66, 67};
        for (int i = 0; i < cents.length; i++) {
            int order = book.order(0, 60, false);
            CHECK.due(cents[i] + " * 2 / 3", book.invoice(order, cents[i], 1, 0), house[i]);
        }
    }

    /** "of currency 0 the cents themselves if there is no row" */
    private static void currencyOfTheHouse() {
        FundBook book = Check.bookWith(1, 1000);
        book.band(1000);
        CHECK.due("without a row", invoiceOfANewOrder(book, 0, 10), 10);
        CHECK.due("a row of currency 0", book.currency(0, 10, 3, 1), 1);
        CHECK.due("the day before it", invoiceOfANewOrder(book, 0, 9), 10);
        CHECK.due("its day", invoiceOfANewOrder(book, 0, 10), 30);
        CHECK.due("the same day again", book.currency(0, 10, 1, 1), FundBook.STATE);
    }

    private static void noSuchCurrency() {
        for (int currency : new int[] {-1, 10, 11, Integer.MIN_VALUE, Integer.MAX_VALUE}) {
            refused("currency " + currency, currency, 20, 1, 1, FundBook.NONE);
        }
    }

    private static void tooLittleOrTooMuch() {
        for (int number : new int[] {0, -1, MOST + 1, Integer.MIN_VALUE, Integer.MAX_VALUE}) {
            refused("up " + number, 1, 20, number, 1, FundBook.RANGE);
            refused("down " + number, 1, 20, 1, number, FundBook.RANGE);
            refused("the first row, up " + number, 2, 0, number, 1, FundBook.RANGE);
            refused("the first row, down " + number, 2, 0, 1, number, FundBook.RANGE);
        }
    }

    private static void noSuchDay() {
        for (int day : new int[] {-1, LAST_DAY + 1, Integer.MIN_VALUE, Integer.MAX_VALUE}) {
            refused("day " + day, 1, day, 1, 1, FundBook.RANGE);
            refused("the first row, day " + day, 2, day, 1, 1, FundBook.RANGE);
        }
    }

    private static void thatDayOrALaterOne() {
        refused("that day", 1, 10, 1, 1, FundBook.STATE);
        refused("that day, the same row", 1, 10, 1, 2, FundBook.STATE);
        refused("the day before", 1, 9, 1, 1, FundBook.STATE);
        refused("day 0", 1, 0, 1, 1, FundBook.STATE);
        FundBook book = scene();
        CHECK.due("the day after", book.currency(1, 11, 1, 1), 1);
        CHECK.due("between both", book.currency(1, 10, 1, 1), FundBook.STATE);
        CHECK.due("that day of another currency", book.currency(2, 10, 1, 1), 1);
        CHECK.due("the old row counts still", book.invoice(0, 100, 1, 10), 50);
        CHECK.due("the new row counts from its day on", book.invoice(1, 100, 1, 11), 100);
        book.close();
        CHECK.due("that day in the next year", book.currency(1, 11, 1, 1), FundBook.STATE);
    }

    /** Each of ten rows counts from its day on, up to the next one's. */
    private static void tenRows() {
        FundBook book = Check.bookWith(1, 100000);
        book.band(1000);
        for (int row = 1; row <= 10; row++) {
            CHECK.due("row " + row, book.currency(9, 10 * row, row, 1), 1);
        }
        CHECK.due("before the first", invoiceOfANewOrder(book, 9, 9), FundBook.CURRENCY);
        for (int row = 1; row <= 10; row++) {
            CHECK.due("the first day of row " + row, invoiceOfANewOrder(book, 9, 10 * row), 10 * row);
            CHECK.due("the last day of row " + row, invoiceOfANewOrder(book, 9, 10 * row + 9), 10 * row);
        }
    }

    private static void full() {
        CHECK.refused("an eleventh row", CurrencyTest::fullScene, book -> book.currency(1, 101, 1, 1), FundBook.FULL);
        CHECK.refused("on the last day", CurrencyTest::fullScene,
            book -> book.currency(1, LAST_DAY, 1, 1), FundBook.FULL);
        FundBook book = fullScene();
        book.currency(1, 101, 1, 1);
        CHECK.due("the tenth row counts still", book.invoice(0, 1000, 1, 150), 100);
        CHECK.due("another currency has room", book.currency(2, 101, 1, 1), 1);
        book.close();
        CHECK.due("full in the next year", book.currency(1, 200, 1, 1), FundBook.FULL);
    }

    private static void firstReasonCounts() {
        refused("NONE, RANGE", 10, -1, 0, 0, FundBook.NONE);
        refused("RANGE, STATE", 1, 10, 0, 1, FundBook.RANGE);
        refused("RANGE, STATE", 1, 5, 1, MOST + 1, FundBook.RANGE);
        CHECK.refused("RANGE, FULL", CurrencyTest::fullScene, book -> book.currency(1, 200, 0, 1), FundBook.RANGE);
        CHECK.refused("STATE, FULL", CurrencyTest::fullScene, book -> book.currency(1, 100, 1, 1), FundBook.STATE);
        CHECK.refused("STATE, FULL", CurrencyTest::fullScene, book -> book.currency(1, 15, 1, 1), FundBook.STATE);
        CHECK.refused("NONE, FULL", CurrencyTest::fullScene, book -> book.currency(-1, 200, 1, 1), FundBook.NONE);
    }

    private static void refused(String why, int currency, int day, int up, int down, long want) {
        CHECK.refused(why, CurrencyTest::scene, book -> book.currency(currency, day, up, down), want);
    }
}
