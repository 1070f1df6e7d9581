/** Promises 10 transfer, 11 agree. */
public final class TransfersTest {
    private static final Check CHECK = new Check("transfers");

    public static void main(String[] args) {
        asking();
        transfersAreFull();
        happening();
        waitingForWhatIsFree();
        refusedAgreements();
        manyPersons();
        CHECK.end();
    }

    private static void asking() {
        FundBook book = Check.bookWith(2, 100);
        CHECK.due("from no fund", book.transfer(2, 0, 1), FundBook.NONE);
        CHECK.due("to no fund", book.transfer(0, 2, 1), FundBook.NONE);
        CHECK.due("from -1", book.transfer(-1, 0, 1), FundBook.NONE);
        CHECK.due("to -1", book.transfer(0, -1, 1), FundBook.NONE);
        CHECK.due("NONE comes before RANGE", book.transfer(2, 2, 0), FundBook.NONE);
        CHECK.due("both are one", book.transfer(1, 1, 1), FundBook.RANGE);
        CHECK.due("0 cents", book.transfer(0, 1, 0), FundBook.RANGE);
        CHECK.due("-1 cents", book.transfer(0, 1, -1), FundBook.RANGE);
        CHECK.due("more than the most", book.transfer(0, 1, 1000000001), FundBook.RANGE);
        CHECK.due("none of them is a transfer", book.sum(3), 0);
        CHECK.due("the most", book.transfer(0, 1, 1000000000), 0);
        CHECK.due("the least", book.transfer(1, 0, 1), 1);
        CHECK.amounts("asked only", book, 0, 100, 0, 0);
        CHECK.amounts("asked only", book, 1, 100, 0, 0);
    }

    private static void transfersAreFull() {
        FundBook book = Check.bookWith(2, 100);
        for (int i = 0; i < 100; i++) {
            CHECK.due("transfer " + i, book.transfer(0, 1, 1), i);
        }
        CHECK.due("transfer 100", book.transfer(0, 1, 1), FundBook.FULL);
        CHECK.due("RANGE comes before FULL", book.transfer(0, 0, 1), FundBook.RANGE);
        CHECK.due("agree(100, 1)", book.agree(100, 1), FundBook.NONE);
        CHECK.due("agree(99, 1)", book.agree(99, 1), 1);
        CHECK.due("sum(3)", book.sum(3), 100);
    }

    private static void happening() {
        FundBook book = Check.bookWith(2, 100);
        book.transfer(0, 1, 100);
        CHECK.due("the first", book.agree(0, 0), 1);
        CHECK.amounts("one has agreed", book, 0, 100, 0, 0);
        CHECK.due("the second", book.agree(0, 99), 2);
        CHECK.amounts("from", book, 0, 0, 0, 0);
        CHECK.amounts("to", book, 1, 200, 0, 0);
        CHECK.due("it has happened", book.agree(0, 5), FundBook.STATE);
        CHECK.amounts("it happens once", book, 1, 200, 0, 0);
    }

    private static void waitingForWhatIsFree() {
        FundBook book = Check.bookWith(2, 100);
        book.order(0, 1, false);
        book.transfer(0, 1, 100);
        CHECK.due("the first", book.agree(0, 1), 1);
        CHECK.due("the second, too little FREE", book.agree(0, 2), 1);
        CHECK.due("the second again", book.agree(0, 2), FundBook.STATE);
        CHECK.due("the third", book.agree(0, 3), 1);
        book.cancel(0);
        CHECK.amounts("it does not happen by itself", book, 0, 100, 0, 0);
        CHECK.due("who has approved can't again", book.agree(0, 1), FundBook.STATE);
        CHECK.due("the fourth", book.agree(0, 4), 2);
        CHECK.amounts("from", book, 0, 0, 0, 0);
        CHECK.amounts("to", book, 1, 200, 0, 0);
    }

    private static void refusedAgreements() {
        FundBook book = Check.bookWith(2, 100);
        book.transfer(0, 1, 10);
        CHECK.due("agree(1, 0)", book.agree(1, 0), FundBook.NONE);
        CHECK.due("agree(-1, 0)", book.agree(-1, 0), FundBook.NONE);
        CHECK.due("person 100", book.agree(0, 100), FundBook.RANGE);
        CHECK.due("person -1", book.agree(0, -1), FundBook.RANGE);
        CHECK.due("NONE comes before RANGE", book.agree(1, 100), FundBook.NONE);
        CHECK.due("refused ones don't count", book.agree(0, 1), 1);
        CHECK.due("the second", book.agree(0, 2), 2);
        CHECK.due("RANGE comes before STATE", book.agree(0, 100), FundBook.RANGE);
    }

    private static void manyPersons() {
        FundBook book = Check.bookWith(2, 0);
        book.transfer(0, 1, 10);
        for (int person = 0; person < 100; person++) {
            CHECK.due("person " + person, book.agree(0, person), 1);
            CHECK.due("person " + person + " again", book.agree(0, person), FundBook.STATE);
        }
        book.give(0, 10);
        CHECK.due("all have approved", book.agree(0, 50), FundBook.STATE);
        CHECK.amounts("nobody is left", book, 0, 10, 0, 0);
    }
}
