/**
 * Promise 10, transfer: "A TRANSFER is asked for, 1 .. 1000000000 cents: its number. NONE; RANGE (also if both are
 * one); FULL."
 */
public final class TransferTest {
    private static final Check CHECK = new Check("10 transfer");
    private static final int MOST = 1000000000;

    public static void main(String[] args) {
        leastAndMost();
        moreThanIsFree();
        tooFewOrTooMany();
        bothAreOne();
        noSuchFund();
        allTransfers();
        full();
        endedTransfersLeaveNoRoom();
        firstReasonCounts();
        CHECK.end();
    }

    /** Transfer 0 has one approval. */
    private static FundBook scene() {
        FundBook book = Check.bookWith(3, 1000);
        book.transfer(0, 1, 100);
        book.agree(0, 1);
        return book;
    }

    private static FundBook fullScene() {
        FundBook book = Check.bookWith(3, 1000);
        for (int transfer = 0; transfer < 100; transfer++) {
            book.transfer(transfer % 2, 2, 1);
        }
        return book;
    }

    private static void leastAndMost() {
        FundBook book = Check.bookWith(2, 2000000000L);
        CHECK.due("1 cent", book.transfer(0, 1, 1), 0);
        CHECK.due("the most", book.transfer(1, 0, MOST), 1);
        CHECK.amounts("only asked for", book, 0, 2000000000L, 0, 0);
        CHECK.amounts("only asked for", book, 1, 2000000000L, 0, 0);
        book.agree(0, 1);
        CHECK.due("1 cent happens", book.agree(0, 2), 2);
        book.agree(1, 1);
        CHECK.due("the most happens", book.agree(1, 2), 2);
        CHECK.amounts("both", book, 0, 2999999999L, 0, 0);
        CHECK.amounts("both", book, 1, 1000000001, 0, 0);
    }

    private static void moreThanIsFree() {
        FundBook book = Check.bookWith(2, 0);
        CHECK.due("of a fund with nothing FREE", book.transfer(0, 1, MOST), 0);
        CHECK.due("sum(3)", book.sum(3), 1);
    }

    private static void tooFewOrTooMany() {
        for (int cents : new int[] {0, -1, -100, MOST + 1, Integer.MIN_VALUE, Integer.MAX_VALUE}) {
            refused("transfer(0, 1, " + cents + ")", 0, 1, cents, FundBook.RANGE);
        }
        FundBook book = scene();
        book.transfer(0, 1, 0);
        CHECK.due("a number is not used up by a refused transfer", book.transfer(0, 1, 1), 1);
    }

    private static void bothAreOne() {
        for (int fund = 0; fund < 3; fund++) {
            refused("from " + fund + " to itself", fund, fund, 10, FundBook.RANGE);
        }
    }

    private static void noSuchFund() {
        for (int fund : new int[] {3, 29, 30, -1, Integer.MIN_VALUE, Integer.MAX_VALUE}) {
            refused("from " + fund, fund, 0, 10, FundBook.NONE);
            refused("to " + fund, 0, fund, 10, FundBook.NONE);
        }
        FundBook book = Check.bookWith(30, 100);
        CHECK.due("from the last of all funds", book.transfer(29, 0, 10), 0);
        CHECK.due("to the last of all funds", book.transfer(0, 29, 10), 1);
        CHECK.due("from beyond all funds", book.transfer(30, 0, 10), FundBook.NONE);
        CHECK.due("to beyond all funds", book.transfer(0, 30, 10), FundBook.NONE);
    }

    /** "TRANSFERS, 0 .. 99" */
    private static void allTransfers() {
        FundBook book = Check.bookWith(2, 1000);
        for (int transfer = 0; transfer < 100; transfer++) {
            CHECK.due("transfer " + transfer, book.transfer(0, 1, 1 + transfer % 2), transfer);
        }
        CHECK.due("sum(3)", book.sum(3), 100);
        for (int transfer = 0; transfer < 100; transfer++) {
            CHECK.due("the first of transfer " + transfer, book.agree(transfer, 1), 1);
            CHECK.due("the second of transfer " + transfer, book.agree(transfer, 2), 2);
        }
        CHECK.amounts("from", book, 0, 850, 0, 0);
        CHECK.amounts("to", book, 1, 1150, 0, 0);
    }

    private static void full() {
        CHECK.refused("transfer 100", TransferTest::fullScene, book -> book.transfer(0, 1, 1), FundBook.FULL);
        CHECK.refused("transfer 100", TransferTest::fullScene, book -> book.transfer(2, 0, MOST), FundBook.FULL);
        FundBook book = fullScene();
        book.transfer(0, 1, 1);
        CHECK.due("sum(3)", book.sum(3), 100);
        CHECK.due("it is not there", book.agree(100, 1), FundBook.NONE);
    }

    private static void endedTransfersLeaveNoRoom() {
        FundBook book = fullScene();
        book.agree(99, 1);
        CHECK.due("one happens", book.agree(99, 2), 2);
        CHECK.due("a transfer then", book.transfer(0, 1, 1), FundBook.FULL);
        book.close();
        CHECK.due("a transfer in the next year", book.transfer(0, 1, 1), FundBook.FULL);
    }

    private static void firstReasonCounts() {
        refused("NONE, RANGE", 3, 0, 0, FundBook.NONE);
        refused("NONE, RANGE", 0, 3, MOST + 1, FundBook.NONE);
        refused("NONE, RANGE: both are one that is not there", 3, 3, 10, FundBook.NONE);
        refused("NONE, RANGE: both are one that is not there", -1, -1, 10, FundBook.NONE);
        CHECK.refused("NONE, FULL", TransferTest::fullScene, book -> book.transfer(0, 3, 1), FundBook.NONE);
        CHECK.refused("RANGE, FULL", TransferTest::fullScene, book -> book.transfer(0, 1, 0), FundBook.RANGE);
        CHECK.refused("RANGE, FULL: both are one", TransferTest::fullScene,
            book -> book.transfer(1, 1, 1), FundBook.RANGE);
    }

    private static void refused(String why, int from, int to, int cents, long want) {
        CHECK.refused(why, TransferTest::scene, book -> book.transfer(from, to, cents), want);
    }
}
