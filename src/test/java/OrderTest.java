/**
 * Promise 4, order: "An order of 1 .. 1000000000 cents, STANDING or not: its number if it is PLACED, -10 less it if
 * it is ASKED. NONE, RANGE, FULL."
 */
public final class OrderTest {
    private static final Check CHECK = new Check("4 order");
    private static final int MOST = 1000000000;
    private static final int ASKED = 0;
    private static final int PLACED = 1;

    public static void main(String[] args) {
        leastAndMost();
        noMoreThanAreFree();
        nothingFree();
        freeBelowZero();
        freeIsWhatIsLeft();
        numberOfAnAskedOne();
        tooFewOrTooMany();
        noSuchFund();
        allOrders();
        full();
        endedOrdersLeaveNoRoom();
        firstReasonCounts();
        CHECK.end();
    }

    private static FundBook scene() {
        FundBook book = Check.bookWith(2, 1000);
        book.order(0, 300, false);
        book.order(1, 2000, true);
        return book;
    }

    /** All numbers of orders are used: 100 PLACED ones and 200 ASKED ones of fund 0. */
    private static FundBook fullScene() {
        FundBook book = Check.bookWith(2, 100);
        for (int order = 0; order < 300; order++) {
            book.order(0, 1, false);
        }
        return book;
    }

    private static void leastAndMost() {
        for (boolean standing : new boolean[] {false, true}) {
            FundBook book = Check.bookWith(1, 5000000000L);
            CHECK.due("order(0, 1, " + standing + ")", book.order(0, 1, standing), 0);
            CHECK.amounts("the least", book, 0, 5000000000L, 1, 0);
            CHECK.due("order(0, the most, " + standing + ")", book.order(0, MOST, standing), 1);
            CHECK.amounts("the most", book, 0, 5000000000L, 1 + MOST, 0);
            CHECK.due("the cents of it", book.told(1, 1), MOST);
        }
    }

    /** "One with no more cents than are FREE is PLACED at once; another one is ASKED": just as many, and one more. */
    private static void noMoreThanAreFree() {
        for (boolean standing : new boolean[] {false, true}) {
            FundBook book = Check.bookWith(1, 1000);
            CHECK.due("one more than are FREE", book.order(0, 1001, standing), -10);
            CHECK.due("its state", book.told(0, 2), ASKED);
            CHECK.amounts("an ASKED one is not encumbered", book, 0, 1000, 0, 0);
            CHECK.due("just as many as are FREE", book.order(0, 1000, standing), 1);
            CHECK.due("its state", book.told(1, 2), PLACED);
            CHECK.amounts("a PLACED one is encumbered", book, 0, 1000, 1000, 0);
        }
    }

    private static void nothingFree() {
        FundBook book = Check.bookWith(2, 0);
        CHECK.due("1 cent of a fund without a gift", book.order(1, 1, false), -10);
        book.give(0, 50);
        book.order(0, 50, false);
        CHECK.due("1 cent of a fund that is all encumbered", book.order(0, 1, false), -12);
    }

    private static void freeBelowZero() {
        FundBook book = Check.bookWith(1, 10);
        book.order(0, 11, false);
        Check.approveByTwo(book, 0);
        CHECK.due("FREE", book.about(0, 3), -1);
        CHECK.due("1 cent then", book.order(0, 1, false), -11);
        book.give(0, 2);
        CHECK.due("1 cent with 1 FREE", book.order(0, 1, false), 2);
    }

    private static void freeIsWhatIsLeft() {
        FundBook book = Check.bookWith(2, 1000);
        book.order(0, 300, false);
        book.order(0, 200, false);
        book.invoice(1, 210, 0, 0);
        CHECK.due("one more than GIVEN less both", book.order(0, 491, false), -12);
        CHECK.due("GIVEN less both", book.order(0, 490, false), 3);
        CHECK.amounts("the other fund", book, 1, 1000, 0, 0);
    }

    /** "-10 less it if it is ASKED": the first and the last number. */
    private static void numberOfAnAskedOne() {
        FundBook book = Check.bookWith(1, 0);
        for (int order = 0; order < 300; order++) {
            CHECK.due("order " + order, book.order(0, 1, true), -10 - order);
        }
        CHECK.due("the last one is there", book.told(299, 2), ASKED);
    }

    private static void tooFewOrTooMany() {
        for (int cents : new int[] {0, -1, MOST + 1, Integer.MIN_VALUE, Integer.MAX_VALUE}) {
            String call = "order(0, " + cents + ", ..)";
            CHECK.refused(call, OrderTest::scene, book -> book.order(0, cents, false), FundBook.RANGE);
            CHECK.refused(call, OrderTest::scene, book -> book.order(0, cents, true), FundBook.RANGE);
        }
        FundBook book = Check.bookWith(1, 1000);
        book.order(0, 0, false);
        CHECK.due("the first number is not used up by a refused order", book.order(0, 1, false), 0);
    }

    private static void noSuchFund() {
        for (int fund : new int[] {2, 29, 30, -1, Integer.MIN_VALUE, Integer.MAX_VALUE}) {
            CHECK.refused("order(" + fund + ", ..)", OrderTest::scene,
                book -> book.order(fund, 1, false), FundBook.NONE);
        }
        FundBook book = Check.bookWith(30, 100);
        CHECK.due("the last of all funds", book.order(29, 1, false), 0);
        CHECK.due("beyond all funds", book.order(30, 1, false), FundBook.NONE);
    }

    /** "ORDERS, 0 .. 299" */
    private static void allOrders() {
        FundBook book = Check.bookWith(1, 100);
        for (int order = 0; order < 300; order++) {
            CHECK.due("order " + order, book.order(0, 1, false), order < 100 ? order : -10 - order);
        }
        CHECK.due("sum(2)", book.sum(2), 300);
        CHECK.amounts("all orders", book, 0, 100, 100, 0);
        CHECK.due("the state of the last one PLACED", book.told(99, 2), PLACED);
        CHECK.due("the state of the last one", book.told(299, 2), ASKED);
        CHECK.due("beyond all orders", book.told(300, 2), Check.NOTHING);
    }

    private static void full() {
        CHECK.refused("one that would be ASKED", OrderTest::fullScene, book -> book.order(0, 1, false), FundBook.FULL);
        CHECK.refused("one that would be PLACED", OrderTest::fullScene, book -> book.order(1, 1, true), FundBook.FULL);
    }

    private static void endedOrdersLeaveNoRoom() {
        FundBook book = fullScene();
        book.cancel(299);
        book.cancel(0);
        CHECK.due("with two cancelled", book.order(0, 1, false), FundBook.FULL);
        book.invoice(1, 1, 0, 0);
        CHECK.due("with one done", book.order(0, 1, false), FundBook.FULL);
        book.close();
        CHECK.due("in the next year", book.order(0, 1, false), FundBook.FULL);
    }

    private static void firstReasonCounts() {
        CHECK.refused("NONE, RANGE", OrderTest::scene, book -> book.order(2, 0, false), FundBook.NONE);
        CHECK.refused("NONE, RANGE, FULL", OrderTest::fullScene, book -> book.order(2, 0, false), FundBook.NONE);
        CHECK.refused("NONE, FULL", OrderTest::fullScene, book -> book.order(-1, 1, false), FundBook.NONE);
        CHECK.refused("RANGE, FULL", OrderTest::fullScene, book -> book.order(0, 0, false), FundBook.RANGE);
        CHECK.refused("RANGE, FULL", OrderTest::fullScene, book -> book.order(0, MOST + 1, true), FundBook.RANGE);
    }
}
