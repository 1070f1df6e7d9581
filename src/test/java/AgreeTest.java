/**
 * Promise 11, agree: "A person approves a transfer: 2 if it happens by that, else 1. NONE, RANGE; STATE if it has
 * happened, or that person has approved it; FULL." (FULL: LimitTest.)
 */
public final class AgreeTest {
    private static final Check CHECK = new Check("11 agree");

    public static void main(String[] args) {
        firstAndSecond();
        firstAndLastPerson();
        asMuchFreeThen();
        oneLessFreeThen();
        freeBelowZero();
        againByAnotherOne();
        everyPersonOnce();
        aPersonOfSeveralTransfers();
        noSuchTransfer();
        noSuchPerson();
        onceOnly();
        happened();
        firstReasonCounts();
        CHECK.end();
    }

    /**
     * Transfer 0 has none, 1 has one approval (person 1), 2 has happened (persons 1 and 2), 3 has two, but stays
     * ASKED, of more than is FREE (persons 1 and 2).
     */
    private static FundBook scene() {
        FundBook book = Check.bookWith(3, 1000);
        book.transfer(0, 1, 100);
        book.transfer(1, 0, 200);
        book.transfer(0, 2, 300);
        book.transfer(2, 1, 5000);
        for (int transfer = 1; transfer < 4; transfer++) {
            book.agree(transfer, 1);
        }
        book.agree(2, 2);
        book.agree(3, 2);
        return book;
    }

    private static void firstAndSecond() {
        FundBook book = scene();
        CHECK.amounts("before", book, 0, 700, 0, 0);
        CHECK.due("the first", book.agree(0, 1), 1);
        CHECK.amounts("one has approved", book, 0, 700, 0, 0);
        CHECK.amounts("one has approved", book, 1, 1000, 0, 0);
        CHECK.due("the second", book.agree(0, 2), 2);
        CHECK.amounts("from", book, 0, 600, 0, 0);
        CHECK.amounts("to", book, 1, 1100, 0, 0);
        CHECK.amounts("another fund", book, 2, 1300, 0, 0);
        CHECK.due("sum(0)", book.sum(0), 3000);
    }

    /** "A person, 0 .. 99" */
    private static void firstAndLastPerson() {
        FundBook book = scene();
        CHECK.due("person 0", book.agree(0, 0), 1);
        CHECK.due("person 99", book.agree(0, 99), 2);
        CHECK.due("person 99", book.agree(1, 99), 2);
    }

    /** "if the first one has as much FREE then" */
    private static void asMuchFreeThen() {
        FundBook book = Check.bookWith(2, 100);
        book.order(0, 40, false);
        book.transfer(0, 1, 60);
        book.agree(0, 1);
        CHECK.due("just as much", book.agree(0, 2), 2);
        CHECK.amounts("from", book, 0, 40, 40, 0);
        CHECK.amounts("to", book, 1, 160, 0, 0);
    }

    private static void oneLessFreeThen() {
        FundBook book = Check.bookWith(2, 100);
        book.order(0, 40, false);
        book.transfer(0, 1, 61);
        book.agree(0, 1);
        CHECK.due("one less", book.agree(0, 2), 1);
        CHECK.amounts("from", book, 0, 100, 40, 0);
        CHECK.amounts("to", book, 1, 100, 0, 0);
        book.give(0, 1);
        CHECK.amounts("it does not happen by itself", book, 1, 100, 0, 0);
        CHECK.due("the third", book.agree(0, 3), 2);
        CHECK.amounts("from", book, 0, 40, 40, 0);
        CHECK.amounts("to", book, 1, 161, 0, 0);
    }

    private static void freeBelowZero() {
        FundBook book = Check.bookWith(2, 100);
        book.order(0, 101, false);
        Check.approveByTwo(book, 0);
        book.transfer(0, 1, 1);
        book.transfer(1, 0, 1);
        book.agree(0, 1);
        CHECK.due("from a fund with FREE below 0", book.agree(0, 2), 1);
        book.agree(1, 1);
        CHECK.due("to a fund with FREE below 0", book.agree(1, 2), 2);
        CHECK.amounts("FREE is 0 then", book, 0, 101, 101, 0);
        CHECK.due("with nothing FREE", book.agree(0, 3), 1);
    }

    /** "else it stays ASKED, and may be approved by another one again" */
    private static void againByAnotherOne() {
        FundBook book = scene();
        CHECK.due("who was the first", book.agree(3, 1), FundBook.STATE);
        CHECK.due("who was the second", book.agree(3, 2), FundBook.STATE);
        CHECK.due("the third, too little FREE still", book.agree(3, 3), 1);
        book.give(2, 3700);
        CHECK.due("who was the third", book.agree(3, 3), FundBook.STATE);
        CHECK.due("the fourth", book.agree(3, 4), 2);
        CHECK.amounts("from", book, 2, 0, 0, 0);
        CHECK.amounts("to", book, 1, 6000, 0, 0);
    }

    private static void everyPersonOnce() {
        FundBook book = Check.bookWith(2, 0);
        book.transfer(0, 1, 10);
        for (int person = 0; person < 100; person++) {
            CHECK.due("person " + person, book.agree(0, person), 1);
            CHECK.due("person " + person + " again", book.agree(0, person), FundBook.STATE);
        }
        book.give(0, 10);
        for (int person = 0; person < 100; person++) {
            CHECK.due("person " + person + " with enough FREE", book.agree(0, person), FundBook.STATE);
        }
        CHECK.amounts("nobody is left", book, 0, 10, 0, 0);
    }

    private static void aPersonOfSeveralTransfers() {
        FundBook book = scene();
        CHECK.due("who has approved others", book.agree(0, 1), 1);
        CHECK.due("who has approved others", book.agree(1, 2), 2);
        book.order(0, 50000, false);
        CHECK.due("who has approved transfers, an order", book.approve(0, 1), 1);
        CHECK.due("the second of transfer 0", book.agree(0, 2), 2);
    }

    private static void noSuchTransfer() {
        for (int transfer : new int[] {4, 99, 100, -1, Integer.MIN_VALUE, Integer.MAX_VALUE}) {
            refused("transfer " + transfer, transfer, 3, FundBook.NONE);
        }
        FundBook book = Check.bookWith(2, 1000);
        for (int transfer = 0; transfer < 100; transfer++) {
            book.transfer(0, 1, 1);
        }
        CHECK.due("the last of all transfers", book.agree(99, 3), 1);
        CHECK.due("beyond all transfers", book.agree(100, 3), FundBook.NONE);
    }

    private static void noSuchPerson() {
        for (int person : new int[] {-1, 100, 128, Integer.MIN_VALUE, Integer.MAX_VALUE}) {
            refused("person " + person, 0, person, FundBook.RANGE);
            refused("person " + person + " as the second", 1, person, FundBook.RANGE);
            refused("person " + person + " as the third", 3, person, FundBook.RANGE);
        }
    }

    private static void onceOnly() {
        refused("who has approved it", 1, 1, FundBook.STATE);
        refused("the second again", 3, 2, FundBook.STATE);
        FundBook book = scene();
        book.agree(1, 1);
        CHECK.amounts("not by one person twice", book, 1, 1000, 0, 0);
        CHECK.due("another one", book.agree(1, 2), 2);
    }

    private static void happened() {
        refused("a third one", 2, 3, FundBook.STATE);
        refused("the second again", 2, 2, FundBook.STATE);
        FundBook book = scene();
        book.close();
        CHECK.due("in the next year", book.agree(2, 3), FundBook.STATE);
    }

    private static void firstReasonCounts() {
        refused("NONE, RANGE", 4, 100, FundBook.NONE);
        refused("NONE, RANGE", -1, -1, FundBook.NONE);
        refused("RANGE, STATE", 2, 100, FundBook.RANGE);
        refused("RANGE, STATE", 2, -1, FundBook.RANGE);
    }

    private static void refused(String why, int transfer, int person, long want) {
        CHECK.refused(why, AgreeTest::scene, book -> book.agree(transfer, person), want);
    }
}
