/**
 * Terms: "By gifts, invoices and transfers none of these may come to lie beyond 10 to the 15th, or below -10 to the
 * 15th: FULL." (FULL of promises 3 give, 6 invoice and 11 agree.)
 *
 * An object comes there only behind its 512th call, where the document leaves all answers free. These tests hold the
 * class to that sentence all the same, so that it does not get lost; what is promised is that no earlier call is FULL
 * by it (GiveTest).
 */
public final class LimitTest {
    private static final Check CHECK = new Check("10 to the 15th");
    private static final long LIMIT = 1000000000000000L;
    private static final long MOST_GIFT = 1000000000000L;
    private static final int MOST_CENTS = 1000000000;
    private static final int ORDERS = 299;
    private static final int MONTHS = 3334;

    public static void main(String[] args) {
        giftsUpToTheLimit();
        giftsBeyondTheLimit();
        transfersUpToTheLimit();
        transfersBeyondTheLimit();
        transferThatDoesNotHappenIsNotFull();
        spentUpToTheLimit();
        freeDownToTheLimit();
        CHECK.end();
    }

    /** Gives a fund so many cents in gifts of the most. */
    private static void giveAll(FundBook book, int fund, long cents) {
        long left = cents;
        while (left > 0) {
            long gift = Math.min(left, MOST_GIFT);
            CHECK.due("a gift", book.give(fund, gift), 1);
            left -= gift;
        }
    }

    private static void giftsUpToTheLimit() {
        FundBook book = Check.bookWith(2, 0);
        giveAll(book, 0, LIMIT - 1);
        CHECK.due("up to the limit", book.give(0, 1), 1);
        CHECK.amounts("the limit", book, 0, LIMIT, 0, 0);
        CHECK.due("another fund has room", book.give(1, MOST_GIFT), 1);
    }

    private static void giftsBeyondTheLimit() {
        FundBook book = Check.bookWith(1, 0);
        giveAll(book, 0, LIMIT - 1);
        CHECK.due("one beyond the limit", book.give(0, 2), FundBook.FULL);
        CHECK.due("the most beyond the limit", book.give(0, MOST_GIFT), FundBook.FULL);
        CHECK.due("RANGE before FULL", book.give(0, MOST_GIFT + 1), FundBook.RANGE);
        CHECK.amounts("nothing happens", book, 0, LIMIT - 1, 0, 0);
        book.order(0, MOST_CENTS, false);
        CHECK.due("GIVEN counts, not FREE", book.give(0, 2), FundBook.FULL);
        book.fund(0);
        book.row(0, -1);
        book.row(1, 1);
        book.post();
        CHECK.due("with room again", book.give(0, 2), 1);
    }

    /** Fund 0 has 1000 cents, fund 1 has 5 less than the limit; person 1 approves a transfer of these cents. */
    private static FundBook transferScene(int cents) {
        FundBook book = Check.bookWith(3, 1000);
        giveAll(book, 1, LIMIT - 1005);
        book.transfer(0, 1, cents);
        CHECK.due("the first", book.agree(0, 1), 1);
        return book;
    }

    private static void transfersUpToTheLimit() {
        FundBook book = transferScene(5);
        CHECK.due("the second", book.agree(0, 2), 2);
        CHECK.amounts("from", book, 0, 995, 0, 0);
        CHECK.amounts("to", book, 1, LIMIT, 0, 0);
    }

    private static void transfersBeyondTheLimit() {
        FundBook book = transferScene(6);
        CHECK.due("the second", book.agree(0, 2), FundBook.FULL);
        CHECK.due("STATE before FULL", book.agree(0, 1), FundBook.STATE);
        CHECK.due("RANGE before FULL", book.agree(0, 100), FundBook.RANGE);
        CHECK.amounts("nothing happens", book, 0, 1000, 0, 0);
        CHECK.amounts("nothing happens", book, 1, LIMIT - 5, 0, 0);
        CHECK.due("the second has not approved it", book.agree(0, 2), FundBook.FULL);
        book.row(1, -1);
        book.row(2, 1);
        book.post();
        CHECK.due("the second, with room", book.agree(0, 2), 2);
        CHECK.amounts("to", book, 1, LIMIT, 0, 0);
    }

    private static void transferThatDoesNotHappenIsNotFull() {
        FundBook book = transferScene(1001);
        CHECK.due("too little FREE, and too much of it", book.agree(0, 2), 1);
        CHECK.due("the second has approved it", book.agree(0, 2), FundBook.STATE);
        book.give(0, 1);
        CHECK.due("enough FREE, and too much of it", book.agree(0, 3), FundBook.FULL);
    }

    /** STANDING orders of the most cents that fund 0 can't pay, and invoices of twice that until so much is SPENT. */
    private static void spend(FundBook book, long cents) {
        book.band(1000);
        book.currency(1, 0, 2, 1);
        book.currency(2, 0, 1, 1000000);
        book.currency(3, 0, 1001, 1);
        for (int order = 0; order < ORDERS; order++) {
            book.order(0, MOST_CENTS, true);
            Check.approveByTwo(book, order);
        }
        long left = cents;
        for (int month = 0; month < MONTHS - 1 && left > 0; month++) {
            for (int order = 0; order < ORDERS && left > 0; order++) {
                long paid = Math.min(left, 2L * MOST_CENTS);
                CHECK.due("an invoice", book.invoice(order, (int) (paid / 2), 1, month * 30), paid);
                left -= paid;
            }
        }
        CHECK.due("what is left to be SPENT", left, 0);
    }

    private static void spentUpToTheLimit() {
        FundBook book = Check.bookWith(1, 0);
        giveAll(book, 0, LIMIT);
        spend(book, LIMIT);
        long encumbered = (long) ORDERS * MOST_CENTS;
        CHECK.amounts("the limit", book, 0, LIMIT, encumbered, LIMIT);
        long invoices = book.told(0, 5);
        CHECK.due("1 cent beyond the limit", book.invoice(0, 1, 0, 100000), FundBook.FULL);
        CHECK.due("CURRENCY before FULL", book.invoice(0, MOST_CENTS, 9, 100000), FundBook.CURRENCY);
        CHECK.due("BAND before FULL", book.invoice(0, MOST_CENTS, 3, 100000), FundBook.BAND);
        CHECK.amounts("nothing happens", book, 0, LIMIT, encumbered, LIMIT);
        CHECK.due("nothing happens", book.told(0, 5), invoices);
        CHECK.due("an invoice that comes to nothing", book.invoice(0, 1, 2, 100000), 0);
        CHECK.due("the invoices then", book.told(0, 5), invoices + 1);
    }

    private static void freeDownToTheLimit() {
        FundBook book = Check.bookWith(1, 0);
        long encumbered = (ORDERS + 1L) * MOST_CENTS;
        spend(book, LIMIT - encumbered);
        book.order(0, MOST_CENTS, false);
        Check.approveByTwo(book, ORDERS);
        CHECK.amounts("FREE is at the limit", book, 0, 0, encumbered, LIMIT - encumbered);
        CHECK.due("1 cent below the limit", book.invoice(0, 1, 0, 100000), FundBook.FULL);
        CHECK.due("1 cent more than was encumbered", book.invoice(ORDERS, 999001, 3, 0), FundBook.FULL);
        CHECK.due("nothing happens: its state", book.told(ORDERS, 2), 1);
        CHECK.due("nothing happens: its latest invoice", book.told(ORDERS, 4), 0);
        CHECK.due("nothing happens: its invoices", book.told(ORDERS, 5), 0);
        CHECK.amounts("nothing happens", book, 0, 0, encumbered, LIMIT - encumbered);
        CHECK.due("as much as was encumbered", book.invoice(ORDERS, MOST_CENTS, 0, 0), MOST_CENTS);
        CHECK.due("a gift has room still", book.give(0, 1), 1);
        CHECK.amounts("after that gift", book, 0, 1, encumbered - MOST_CENTS, LIMIT - encumbered + MOST_CENTS);
    }
}
