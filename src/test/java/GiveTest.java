/** Promise 3, give: "Cents, 1 .. 1000000000000, are GIVEN to a fund: 1. NONE, RANGE, FULL." (FULL: LimitTest.) */
public final class GiveTest {
    private static final Check CHECK = new Check("3 give");
    private static final long MOST = 1000000000000L;

    public static void main(String[] args) {
        leastAndMost();
        giftsAddUp();
        centsAreNotCutToAnInt();
        tooFewOrTooMany();
        noSuchFund();
        noneBeforeRange();
        mostGiftsOfARun();
        CHECK.end();
    }

    private static FundBook scene() {
        return Check.bookWith(2, 100);
    }

    private static void leastAndMost() {
        FundBook book = Check.bookWith(2, 0);
        CHECK.due("give(0, 1)", book.give(0, 1), 1);
        CHECK.amounts("the least", book, 0, 1, 0, 0);
        CHECK.due("give(1, the most)", book.give(1, MOST), 1);
        CHECK.amounts("the most", book, 1, MOST, 0, 0);
        CHECK.amounts("the other fund", book, 0, 1, 0, 0);
    }

    private static void giftsAddUp() {
        FundBook book = Check.bookWith(1, 0);
        book.give(0, 2);
        book.give(0, MOST - 1);
        CHECK.due("a third gift", book.give(0, 7), 1);
        CHECK.amounts("three gifts", book, 0, MOST + 8, 0, 0);
    }

    private static void centsAreNotCutToAnInt() {
        FundBook book = Check.bookWith(1, 0);
        CHECK.due("2 to the 32nd", book.give(0, 4294967296L), 1);
        CHECK.due("2 to the 31st", book.give(0, 2147483648L), 1);
        CHECK.amounts("both", book, 0, 6442450944L, 0, 0);
        CHECK.refused("1 less 2 to the 32nd", GiveTest::scene, at -> at.give(0, -4294967295L), FundBook.RANGE);
    }

    private static void tooFewOrTooMany() {
        for (long cents : new long[] {0, -1, -MOST, MOST + 1, Long.MIN_VALUE, Long.MAX_VALUE}) {
            CHECK.refused("give(0, " + cents + ")", GiveTest::scene, book -> book.give(0, cents), FundBook.RANGE);
        }
    }

    private static void noSuchFund() {
        for (int fund : new int[] {2, 3, 29, 30, -1, Integer.MIN_VALUE, Integer.MAX_VALUE}) {
            CHECK.refused("give(" + fund + ", 1)", GiveTest::scene, book -> book.give(fund, 1), FundBook.NONE);
        }
        CHECK.due("the last of all funds", Check.bookWith(30, 100).give(29, 1), 1);
        CHECK.refused("beyond all funds", () -> Check.bookWith(30, 100), book -> book.give(30, 1), FundBook.NONE);
    }

    private static void noneBeforeRange() {
        CHECK.refused("no such fund, no cents", GiveTest::scene, book -> book.give(2, 0), FundBook.NONE);
        CHECK.refused("no such fund, too many cents", GiveTest::scene, book -> book.give(-1, MOST + 1), FundBook.NONE);
    }

    /** Within the 512 calls of an object, gifts can't come to 10 to the 15th: none of them is FULL. */
    private static void mostGiftsOfARun() {
        FundBook book = Check.bookWith(1, 0);
        for (int gift = 1; gift <= 507; gift++) {
            CHECK.due("gift " + gift, book.give(0, MOST), 1);
        }
        CHECK.amounts("all gifts", book, 0, 507 * MOST, 0, 0);
    }
}
