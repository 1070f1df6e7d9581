/** Promises 6 invoice, 8 band, 9 currency. */
public final class InvoicesTest {
    private static final Check CHECK = new Check("invoices");

    public static void main(String[] args) {
        onceOnly();
        refusedInvoices();
        theOrderOfReasons();
        standingOrders();
        standingOrdersAfterOtherAnswers();
        band();
        bandIsCut();
        greatestBand();
        currencyRows();
        currencyOfTheHouse();
        refusedCurrencies();
        CHECK.end();
    }

    private static void onceOnly() {
        FundBook book = Check.bookWith(1, 1000);
        book.order(0, 600, false);
        CHECK.due("above the band", book.invoice(0, 631, 0, 5), FundBook.BAND);
        CHECK.due("below the band", book.invoice(0, 569, 0, 5), FundBook.BAND);
        CHECK.amounts("beyond the band", book, 0, 1000, 600, 0);
        CHECK.due("the invoices then", book.told(0, 5), 0);
        CHECK.due("within", book.invoice(0, 570, 0, 5), 570);
        CHECK.amounts("paid", book, 0, 1000, 0, 570);
        CHECK.due("one that is DONE", book.invoice(0, 570, 0, 50), FundBook.STATE);
        book.order(0, 430, false);
        CHECK.due("FREE may come below 0", book.invoice(1, 451, 0, 0), 451);
        CHECK.amounts("paid more than FREE", book, 0, 1000, 0, 1021);
    }

    private static void refusedInvoices() {
        FundBook book = Check.bookWith(1, 3000000000L);
        book.order(0, 1000000000, false);
        CHECK.due("invoice(1, ..)", book.invoice(1, 1, 0, 0), FundBook.NONE);
        CHECK.due("invoice(-1, ..)", book.invoice(-1, 1, 0, 0), FundBook.NONE);
        CHECK.due("0 cents", book.invoice(0, 0, 0, 0), FundBook.RANGE);
        CHECK.due("-1 cents", book.invoice(0, -1, 0, 0), FundBook.RANGE);
        CHECK.due("more cents than can be", book.invoice(0, 1000000001, 0, 0), FundBook.RANGE);
        CHECK.due("currency -1", book.invoice(0, 1000000000, -1, 0), FundBook.RANGE);
        CHECK.due("currency 10", book.invoice(0, 1000000000, 10, 0), FundBook.RANGE);
        CHECK.due("day -1", book.invoice(0, 1000000000, 0, -1), FundBook.RANGE);
        CHECK.due("day 100001", book.invoice(0, 1000000000, 0, 100001), FundBook.RANGE);
        CHECK.due("the most cents on the last day", book.invoice(0, 1000000000, 0, 100000), 1000000000);
        CHECK.amounts("the most", book, 0, 3000000000L, 0, 1000000000);
    }

    private static void theOrderOfReasons() {
        FundBook book = Check.bookWith(1, 1000);
        book.order(0, 2000, false);
        CHECK.due("NONE before RANGE", book.invoice(1, 0, 0, 0), FundBook.NONE);
        CHECK.due("RANGE before STATE", book.invoice(0, 0, 0, 0), FundBook.RANGE);
        CHECK.due("STATE before CURRENCY", book.invoice(0, 2000, 3, 0), FundBook.STATE);
        CHECK.due("one that is ASKED", book.invoice(0, 2000, 0, 0), FundBook.STATE);
        book.approve(0, 1);
        CHECK.due("one that is ASKED still", book.invoice(0, 2000, 0, 0), FundBook.STATE);
        book.approve(0, 2);
        CHECK.due("CURRENCY before BAND", book.invoice(0, 1, 3, 0), FundBook.CURRENCY);
        CHECK.due("now PLACED", book.invoice(0, 2000, 0, 0), 2000);
        book.order(0, 5, false);
        book.cancel(1);
        CHECK.due("one that is CANCELLED", book.invoice(1, 5, 0, 0), FundBook.STATE);
    }

    private static void standingOrders() {
        FundBook book = Check.bookWith(1, 1000);
        book.order(0, 200, true);
        CHECK.due("month 1", book.invoice(0, 200, 0, 30), 200);
        CHECK.amounts("a month", book, 0, 1000, 200, 200);
        CHECK.due("its last day", book.invoice(0, 200, 0, 59), FundBook.STATE);
        CHECK.due("the month before", book.invoice(0, 200, 0, 29), FundBook.STATE);
        CHECK.due("the next month", book.invoice(0, 210, 0, 60), 210);
        CHECK.due("a month left out", book.invoice(0, 190, 0, 149), 190);
        CHECK.due("the month left out", book.invoice(0, 190, 0, 95), FundBook.STATE);
        CHECK.due("STATE before BAND", book.invoice(0, 1, 0, 149), FundBook.STATE);
        CHECK.amounts("three months", book, 0, 1000, 200, 600);
        CHECK.due("invoices", book.told(0, 5), 3);
        CHECK.due("the latest", book.told(0, 4), -10);
        CHECK.due("the state", book.told(0, 2), 1);
        book.cancel(0);
        CHECK.due("a cancelled one", book.invoice(0, 200, 0, 300), FundBook.STATE);
        CHECK.amounts("cancelled", book, 0, 1000, 0, 600);
        book.order(0, 100, true);
        CHECK.due("day 0 of a new one", book.invoice(1, 100, 0, 0), 100);
        CHECK.due("day 29 then", book.invoice(1, 100, 0, 29), FundBook.STATE);
    }

    private static void standingOrdersAfterOtherAnswers() {
        FundBook book = Check.bookWith(1, 1000);
        book.order(0, 200, true);
        CHECK.due("beyond the band", book.invoice(0, 300, 0, 300), FundBook.BAND);
        CHECK.due("the month is not taken by that", book.invoice(0, 200, 0, 0), 200);
        book.close();
        CHECK.due("a new year does not free a month", book.invoice(0, 200, 0, 5), FundBook.STATE);
        CHECK.due("nor does it end the order", book.invoice(0, 200, 0, 30), 200);
    }

    private static void band() {
        FundBook book = Check.bookWith(1, 1000000);
        CHECK.due("band(-1)", book.band(-1), FundBook.RANGE);
        CHECK.due("band(1001)", book.band(1001), FundBook.RANGE);
        for (int i = 0; i < 4; i++) {
            book.order(0, 1000, false);
        }
        CHECK.due("50 still", book.invoice(0, 1051, 0, 0), FundBook.BAND);
        CHECK.due("50 still", book.invoice(0, 1050, 0, 0), 1050);
        CHECK.due("band(0)", book.band(0), 1);
        CHECK.due("one more", book.invoice(1, 1001, 0, 0), FundBook.BAND);
        CHECK.due("one less", book.invoice(1, 999, 0, 0), FundBook.BAND);
        CHECK.due("just that", book.invoice(1, 1000, 0, 0), 1000);
        CHECK.due("band(1000)", book.band(1000), 1);
        CHECK.due("more than twice", book.invoice(2, 2001, 0, 0), FundBook.BAND);
        CHECK.due("twice", book.invoice(2, 2000, 0, 0), 2000);
        CHECK.due("band(1001)", book.band(1001), FundBook.RANGE);
        CHECK.due("nearly nothing", book.invoice(3, 1, 0, 0), 1);
    }

    private static void bandIsCut() {
        FundBook book = Check.bookWith(1, 1000000);
        for (int i = 0; i < 2; i++) {
            book.order(0, 999, false);
        }
        CHECK.due("49.95 above is cut", book.invoice(0, 1049, 0, 0), FundBook.BAND);
        CHECK.due("49 above", book.invoice(0, 1048, 0, 0), 1048);
        CHECK.due("49.95 below is cut", book.invoice(1, 949, 0, 0), FundBook.BAND);
        CHECK.due("49 below", book.invoice(1, 950, 0, 0), 950);
        book.order(0, 19, false);
        CHECK.due("0.95 above is cut", book.invoice(2, 20, 0, 0), FundBook.BAND);
        CHECK.due("0.95 below is cut", book.invoice(2, 18, 0, 0), FundBook.BAND);
        CHECK.due("just that", book.invoice(2, 19, 0, 0), 19);
    }

    private static void greatestBand() {
        FundBook book = Check.bookWith(1, 5000000000L);
        book.band(1000);
        book.order(0, 1000000000, false);
        book.order(0, 1000000000, false);
        book.currency(1, 0, 1000000, 1);
        book.currency(2, 0, 2, 1);
        book.currency(3, 0, 1, 1000000);
        CHECK.due("10 to the 15th", book.invoice(0, 1000000000, 1, 0), FundBook.BAND);
        CHECK.due("2000000000", book.invoice(0, 1000000000, 2, 0), 2000000000L);
        CHECK.due("nothing is in the widest band", book.invoice(1, 999999, 3, 0), 0);
        CHECK.due("what that was", book.told(1, 4), -1000000000);
        CHECK.amounts("both", book, 0, 5000000000L, 0, 2000000000L);
    }

    private static void currencyRows() {
        FundBook book = Check.bookWith(1, 1000000);
        book.band(1000);
        book.order(0, 100, true);
        CHECK.due("row of day 10", book.currency(1, 10, 2, 3), 1);
        CHECK.due("row of day 40", book.currency(1, 40, 3, 2), 1);
        CHECK.due("row of day 41", book.currency(1, 41, 1, 1), 1);
        CHECK.due("before the first row", book.invoice(0, 100, 1, 9), FundBook.CURRENCY);
        CHECK.due("of the first row's day, cut", book.invoice(0, 100, 1, 10), 66);
        CHECK.due("the day before the second row", book.invoice(0, 101, 1, 39), 67);
        CHECK.due("the months go on", book.invoice(0, 101, 1, 40), FundBook.STATE);
        CHECK.due("long after the last row", book.invoice(0, 101, 1, 99999), 101);
        book.order(0, 100, false);
        CHECK.due("of the second row's day, cut", book.invoice(1, 101, 1, 40), 151);
        book.order(0, 100, false);
        CHECK.due("another currency", book.invoice(2, 101, 2, 40), FundBook.CURRENCY);
        CHECK.due("the last currency", book.currency(9, 0, 1, 2), 1);
        CHECK.due("half", book.invoice(2, 101, 9, 0), 50);
    }

    private static void currencyOfTheHouse() {
        FundBook book = Check.bookWith(1, 1000000);
        book.band(1000);
        for (int i = 0; i < 3; i++) {
            book.order(0, 100, false);
        }
        CHECK.due("without a row", book.invoice(0, 100, 0, 10), 100);
        CHECK.due("a row of currency 0", book.currency(0, 10, 1, 2), 1);
        CHECK.due("before that row", book.invoice(1, 100, 0, 9), 100);
        CHECK.due("with that row", book.invoice(2, 100, 0, 10), 50);
    }

    private static void refusedCurrencies() {
        FundBook book = Check.bookWith(1, 1000);
        CHECK.due("currency -1", book.currency(-1, 0, 1, 1), FundBook.NONE);
        CHECK.due("currency 10", book.currency(10, 0, 1, 1), FundBook.NONE);
        CHECK.due("NONE before RANGE", book.currency(10, 0, 0, 0), FundBook.NONE);
        CHECK.due("up 0", book.currency(1, 0, 0, 1), FundBook.RANGE);
        CHECK.due("up 1000001", book.currency(1, 0, 1000001, 1), FundBook.RANGE);
        CHECK.due("down 0", book.currency(1, 0, 1, 0), FundBook.RANGE);
        CHECK.due("down -1", book.currency(1, 0, 1, -1), FundBook.RANGE);
        CHECK.due("down 1000001", book.currency(1, 0, 1, 1000001), FundBook.RANGE);
        CHECK.due("day -1", book.currency(1, -1, 1, 1), FundBook.RANGE);
        CHECK.due("day 100001", book.currency(1, 100001, 1, 1), FundBook.RANGE);
        CHECK.due("the greatest of both", book.currency(1, 0, 1000000, 1000000), 1);
        CHECK.due("RANGE before STATE", book.currency(1, 0, 0, 1), FundBook.RANGE);
        CHECK.due("the same day", book.currency(1, 0, 1, 1), FundBook.STATE);
        CHECK.due("a later day", book.currency(1, 5, 1, 1), 1);
        CHECK.due("a day between", book.currency(1, 4, 1, 1), FundBook.STATE);
        for (int day = 6; day < 14; day++) {
            CHECK.due("row of day " + day, book.currency(1, day, 1, 1), 1);
        }
        CHECK.due("an eleventh row", book.currency(1, 14, 1, 1), FundBook.FULL);
        CHECK.due("STATE before FULL", book.currency(1, 13, 1, 1), FundBook.STATE);
        CHECK.due("the last day of another one", book.currency(2, 100000, 1, 1), 1);
    }
}
