/**
 * Promise 8, band: "The BAND, 0 .. 1000, for invoices that come: 1. RANGE." An invoice lies "from cents - cents * b /
 * 1000 to cents + cents * b / 1000 (both cut; b is 50 at first)".
 */
public final class BandTest {
    private static final Check CHECK = new Check("8 band");

    public static void main(String[] args) {
        fiftyAtFirst();
        narrowest();
        widest();
        one();
        bothAreCut();
        theMostCents();
        theLeastCents();
        ofInvoicesThatCome();
        cutInHouseCents();
        noSuchBand();
        CHECK.end();
    }

    private static FundBook scene() {
        FundBook book = Check.bookWith(1, 10000);
        book.order(0, 1000, false);
        book.order(0, 1000, true);
        book.band(20);
        return book;
    }

    /** The last that is allowed and the first that is not, at both ends. */
    private static void ends(String what, int b, int cents, int least, int most) {
        FundBook book = Check.bookWith(1, 5000000000L);
        CHECK.due(what + ": band(" + b + ")", book.band(b), 1);
        endsOfNewOrders(what, book, cents, least, most);
    }

    private static void endsOfNewOrders(String what, FundBook book, int cents, int least, int most) {
        int order = (int) book.sum(2);
        book.order(0, cents, false);
        book.order(0, cents, false);
        if (least > 1) {
            CHECK.due(what + ": too little", book.invoice(order, least - 1, 0, 0), FundBook.BAND);
        }
        if (most < 1000000000) {
            CHECK.due(what + ": too much", book.invoice(order, most + 1, 0, 0), FundBook.BAND);
        }
        CHECK.due(what + ": the least", book.invoice(order, least, 0, 0), least);
        CHECK.due(what + ": the most", book.invoice(order + 1, most, 0, 0), most);
    }

    private static void fiftyAtFirst() {
        FundBook book = Check.bookWith(1, 10000);
        endsOfNewOrders("b is 50 at first", book, 1000, 950, 1050);
        endsOfNewOrders("b is 50 at first", book, 600, 570, 630);
    }

    private static void narrowest() {
        ends("0", 0, 1000, 1000, 1000);
        ends("0", 0, 1, 1, 1);
        ends("0", 0, 1000000000, 1000000000, 1000000000);
    }

    private static void widest() {
        ends("1000", 1000, 1000, 1, 2000);
        ends("1000", 1000, 1, 1, 2);
        ends("999", 999, 1000, 1, 1999);
        ends("998", 998, 1000, 2, 1998);
    }

    private static void one() {
        ends("1 of 1000 cents", 1, 1000, 999, 1001);
        ends("1 of 1001 cents", 1, 1001, 1000, 1002);
        ends("1 of 999 cents", 1, 999, 999, 999);
        ends("1 of 1999 cents", 1, 1999, 1998, 2000);
        ends("1 of 2000 cents", 1, 2000, 1998, 2002);
    }

    private static void bothAreCut() {
        ends("50 of 999 cents, 49.95", 50, 999, 950, 1048);
        ends("50 of 1001 cents, 50.05", 50, 1001, 951, 1051);
        ends("50 of 19 cents, 0.95", 50, 19, 19, 19);
        ends("50 of 20 cents, 1", 50, 20, 19, 21);
        ends("50 of 39 cents, 1.95", 50, 39, 38, 40);
        ends("333 of 10 cents, 3.33", 333, 10, 7, 13);
        ends("999 of 1 cent, 0.999", 999, 1, 1, 1);
    }

    /** cents * b is beyond an int. */
    private static void theMostCents() {
        ends("50 of the most", 50, 1000000000, 950000000, 1000000000);
        ends("1000 of the most", 1000, 1000000000, 1, 1000000000);
        ends("7 of 999999999, 6999999.993", 7, 999999999, 993000000, 1000000000);
        FundBook book = Check.bookWith(1, 5000000000L);
        book.band(1000);
        book.currency(1, 0, 2, 1);
        book.currency(2, 0, 1000000, 499999);
        book.currency(3, 0, 1000000, 1);
        book.order(0, 1000000000, false);
        CHECK.due("10 to the 15th", book.invoice(0, 1000000000, 3, 0), FundBook.BAND);
        CHECK.due("more than twice the most", book.invoice(0, 1000000000, 2, 0), FundBook.BAND);
        CHECK.due("twice the most", book.invoice(0, 1000000000, 1, 0), 2000000000L);
        CHECK.amounts("twice the most", book, 0, 5000000000L, 0, 2000000000L);
    }

    /** Cut, an invoice may come to nothing: only the widest band begins at 0. */
    private static void theLeastCents() {
        FundBook book = Check.bookWith(1, 1000);
        book.currency(1, 0, 1, 1000000);
        book.order(0, 100, false);
        book.band(999);
        CHECK.due("nothing, within 1 .. 199", book.invoice(0, 999999, 1, 0), FundBook.BAND);
        book.band(1000);
        CHECK.due("nothing, within 0 .. 200", book.invoice(0, 999999, 1, 0), 0);
        CHECK.amounts("nothing", book, 0, 1000, 0, 0);
        CHECK.due("nothing less its cents", book.told(0, 4), -100);
        CHECK.due("its invoices", book.told(0, 5), 1);
        CHECK.due("its state", book.told(0, 2), 2);
    }

    /** "for invoices that come": orders that were placed before it are within the new one. */
    private static void ofInvoicesThatCome() {
        FundBook book = Check.bookWith(1, 10000);
        book.order(0, 1000, true);
        CHECK.due("with 50", book.invoice(0, 1050, 0, 0), 1050);
        book.band(10);
        CHECK.due("with 10", book.invoice(0, 1050, 0, 30), FundBook.BAND);
        CHECK.due("with 10", book.invoice(0, 1010, 0, 30), 1010);
        book.band(100);
        CHECK.due("with 100", book.invoice(0, 1100, 0, 60), 1100);
        book.close();
        CHECK.due("with 100 in the next year", book.invoice(0, 900, 0, 90), 900);
        CHECK.due("its invoices", book.told(0, 5), 4);
    }

    private static void cutInHouseCents() {
        FundBook book = Check.bookWith(1, 10000);
        book.currency(1, 0, 1, 3);
        book.order(0, 1000, true);
        CHECK.due("1050.67, cut to 1050", book.invoice(0, 3152, 1, 0), 1050);
        CHECK.due("1051", book.invoice(0, 3153, 1, 30), FundBook.BAND);
        CHECK.due("949.67, cut to 949", book.invoice(0, 2849, 1, 30), FundBook.BAND);
        CHECK.due("950", book.invoice(0, 2850, 1, 30), 950);
    }

    private static void noSuchBand() {
        for (int b : new int[] {-1, 1001, -1000, Integer.MIN_VALUE, Integer.MAX_VALUE}) {
            CHECK.refused("band(" + b + ")", BandTest::scene, book -> book.band(b), FundBook.RANGE);
            FundBook book = scene();
            book.band(b);
            endsOfNewOrders("20 still", book, 1000, 980, 1020);
        }
    }
}
