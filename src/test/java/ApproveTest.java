/**
 * Promise 5, approve: "A person approves an order that is ASKED: how many have; with the second one it is PLACED.
 * NONE; RANGE if there is no such person; STATE if it is not ASKED, or that person has approved it."
 */
public final class ApproveTest {
    private static final Check CHECK = new Check("5 approve");
    private static final int ASKED = 0;
    private static final int PLACED = 1;

    public static void main(String[] args) {
        firstAndSecond();
        firstAndLastPerson();
        everyPersonIsAnother();
        aPersonOfSeveralOrders();
        noSuchPerson();
        noSuchOrder();
        onceOnly();
        notAsked();
        firstReasonCounts();
        theMostEncumbered();
        CHECK.end();
    }

    /** Order 0 is PLACED, 1 and 2 are ASKED, of which 2 has one approval, by person 1; 3 is CANCELLED, 4 is DONE. */
    private static FundBook scene() {
        FundBook book = Check.bookWith(2, 1000);
        book.order(0, 600, false);
        book.order(0, 500, false);
        book.order(1, 1001, true);
        book.order(0, 600, false);
        book.order(1, 100, false);
        book.approve(2, 1);
        book.cancel(3);
        book.invoice(4, 100, 0, 0);
        return book;
    }

    private static void firstAndSecond() {
        FundBook book = Check.bookWith(1, 100);
        book.order(0, 500, false);
        CHECK.due("how many before", book.told(0, 3), 0);
        CHECK.due("the first", book.approve(0, 7), 1);
        CHECK.due("its state then", book.told(0, 2), ASKED);
        CHECK.amounts("not yet encumbered", book, 0, 100, 0, 0);
        CHECK.due("the second", book.approve(0, 8), 2);
        CHECK.due("its state then", book.told(0, 2), PLACED);
        CHECK.amounts("encumbered, FREE below 0", book, 0, 100, 500, 0);
        CHECK.due("how many have", book.told(0, 3), 2);
    }

    /** "A person, 0 .. 99" */
    private static void firstAndLastPerson() {
        FundBook book = Check.bookWith(1, 0);
        book.order(0, 5, false);
        CHECK.due("person 0", book.approve(0, 0), 1);
        CHECK.due("person 99", book.approve(0, 99), 2);
        book.order(0, 5, true);
        CHECK.due("person 99", book.approve(1, 99), 1);
        CHECK.due("person 0", book.approve(1, 0), 2);
    }

    private static void everyPersonIsAnother() {
        FundBook book = Check.bookWith(1, 0);
        for (int person = 0; person < 100; person++) {
            book.order(0, 5, false);
            CHECK.due("person " + person, book.approve(person, person), 1);
            CHECK.due("person " + person + " again", book.approve(person, person), FundBook.STATE);
            CHECK.due("another than " + person, book.approve(person, (person + 64) % 100), 2);
        }
    }

    private static void aPersonOfSeveralOrders() {
        FundBook book = Check.bookWith(1, 0);
        book.order(0, 5, false);
        book.order(0, 5, false);
        CHECK.due("one order", book.approve(0, 3), 1);
        CHECK.due("another order", book.approve(1, 3), 1);
        CHECK.due("the second of the other one", book.approve(1, 4), 2);
        CHECK.due("the first one has one still", book.told(0, 3), 1);
        CHECK.due("the second of the first one", book.approve(0, 4), 2);
    }

    private static void noSuchPerson() {
        for (int person : new int[] {-1, 100, 128, Integer.MIN_VALUE, Integer.MAX_VALUE}) {
            CHECK.refused("approve(1, " + person + ")", ApproveTest::scene,
                book -> book.approve(1, person), FundBook.RANGE);
            CHECK.refused("approve(2, " + person + ")", ApproveTest::scene,
                book -> book.approve(2, person), FundBook.RANGE);
        }
    }

    private static void noSuchOrder() {
        for (int order : new int[] {5, 299, 300, -1, -10, Integer.MIN_VALUE, Integer.MAX_VALUE}) {
            CHECK.refused("approve(" + order + ", 3)", ApproveTest::scene,
                book -> book.approve(order, 3), FundBook.NONE);
        }
        FundBook book = Check.bookWith(1, 0);
        for (int order = 0; order < 300; order++) {
            book.order(0, 1, false);
        }
        CHECK.due("the last of all orders", book.approve(299, 3), 1);
        CHECK.due("beyond all orders", book.approve(300, 3), FundBook.NONE);
    }

    private static void onceOnly() {
        CHECK.refused("who has approved it", ApproveTest::scene, book -> book.approve(2, 1), FundBook.STATE);
        FundBook book = scene();
        book.approve(2, 1);
        CHECK.due("how many then", book.told(2, 3), 1);
        CHECK.due("another one is the second", book.approve(2, 2), 2);
    }

    private static void notAsked() {
        CHECK.refused("one PLACED at once", ApproveTest::scene, book -> book.approve(0, 3), FundBook.STATE);
        CHECK.refused("one that is CANCELLED", ApproveTest::scene, book -> book.approve(3, 3), FundBook.STATE);
        CHECK.refused("one that is DONE", ApproveTest::scene, book -> book.approve(4, 3), FundBook.STATE);
        CHECK.refused("a third one", ApproveTest::approvedScene, book -> book.approve(2, 3), FundBook.STATE);
        CHECK.refused("the second again", ApproveTest::approvedScene, book -> book.approve(2, 2), FundBook.STATE);
    }

    private static FundBook approvedScene() {
        FundBook book = scene();
        book.approve(2, 2);
        return book;
    }

    private static void firstReasonCounts() {
        CHECK.refused("NONE, RANGE", ApproveTest::scene, book -> book.approve(5, 100), FundBook.NONE);
        CHECK.refused("NONE, RANGE", ApproveTest::scene, book -> book.approve(-1, -1), FundBook.NONE);
        CHECK.refused("RANGE, STATE", ApproveTest::scene, book -> book.approve(0, 100), FundBook.RANGE);
        CHECK.refused("RANGE, STATE", ApproveTest::scene, book -> book.approve(3, -1), FundBook.RANGE);
    }

    /** As many orders as two persons can approve within 512 calls, of the most cents: ENCUMBERED is beyond an int. */
    private static void theMostEncumbered() {
        FundBook book = Check.bookWith(1, 0);
        for (int order = 0; order < 160; order++) {
            book.order(0, 1000000000, false);
            Check.approveByTwo(book, order);
        }
        CHECK.amounts("160 orders", book, 0, 0, 160000000000L, 0);
    }
}
