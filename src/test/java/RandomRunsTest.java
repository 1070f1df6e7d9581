import java.util.Random;

/** Runs of calls from fixed seeds: nothing is thrown but by post, and the amounts of all funds always agree. */
public final class RandomRunsTest {
    private static final int RUNS = 1200;
    /** With the calls that look at the amounts behind them, a run stays below the 512 that are promised. */
    private static final int MOST_CALLS = 300;
    private static final int[] ODD_NUMBERS = {
        Integer.MIN_VALUE, -1000000001, -1, 0, 1, 9, 10, 20, 29, 30, 63, 64, 99, 100, 299, 300, 1000, 1001,
        9999, 100000, 100001, 1000000, 1000001, 1000000000, 1000000001, Integer.MAX_VALUE
    };

    private final Check check;
    private final Random random;
    private final FundBook book;

    private RandomRunsTest(Check check, int seed) {
        this.check = check;
        this.random = new Random(seed);
        this.book = new FundBook(number(10000));
    }

    public static void main(String[] args) {
        Check check = new Check("random runs");
        for (int seed = 0; seed < RUNS; seed++) {
            new RandomRunsTest(check, seed).run(seed);
        }
        check.end();
    }

    private void run(int seed) {
        int calls = 1 + seed % MOST_CALLS;
        for (int i = 0; i < calls; i++) {
            int kind = random.nextInt(17);
            try {
                call(kind);
            } catch (IllegalStateException e) {
                check.due("seed " + seed + ", call " + i + ": only post throws (kind)", kind, 11);
            } catch (RuntimeException e) {
                check.due("seed " + seed + ", call " + i + " of kind " + kind + " throws " + e, 1, 0);
            }
        }
        amountsAgree("seed " + seed + ", after " + calls + " calls: ");
    }

    /** Mostly a number below the bound, at times an odd one. */
    private int number(int bound) {
        return random.nextInt(8) == 0 ? ODD_NUMBERS[random.nextInt(ODD_NUMBERS.length)] : random.nextInt(bound);
    }

    private void call(int kind) {
        switch (kind) {
            case 0 -> book.fund(number(3));
            case 1 -> book.give(number(6), number(5000));
            case 2 -> book.order(number(6), number(2000), random.nextBoolean());
            case 3 -> book.approve(number(60), number(4));
            case 4 -> invoice();
            case 5 -> book.cancel(number(60));
            case 6 -> book.band(number(1001));
            case 7 -> book.currency(number(4), number(500), number(5), number(5));
            case 8 -> book.transfer(number(6), number(6), number(500));
            case 9 -> book.agree(number(20), number(100));
            case 10 -> rows();
            case 11 -> book.post();
            case 12 -> book.failing();
            case 13 -> closeAtTimes();
            case 14 -> book.about(number(6), number(5));
            case 15 -> book.told(number(60), number(7));
            default -> book.sum(number(5));
        }
    }

    /** About what the order is of, so that many invoices lie within the band. */
    private void invoice() {
        int order = number(60);
        long cents = book.told(order, 1);
        boolean known = cents > 0 && random.nextInt(4) != 0;
        book.invoice(order, known ? (int) cents : number(2000), number(3), number(900));
    }

    private void rows() {
        int cents = number(300);
        book.row(number(4), cents);
        book.row(number(4), -cents);
    }

    private void closeAtTimes() {
        if (random.nextInt(8) == 0) {
            book.close();
        }
    }

    private void amountsAgree(String when) {
        long[] encumbered = encumberedByOrders();
        long total = 0;
        for (int fund = 0; fund < encumbered.length; fund++) {
            long given = book.about(fund, 0);
            if (given == Check.NOTHING) {
                break;
            }
            total += given;
            check.due(when + "ENCUMBERED of fund " + fund, book.about(fund, 1), encumbered[fund]);
            long free = given - encumbered[fund] - book.about(fund, 2);
            check.due(when + "FREE of fund " + fund, book.about(fund, 3), free);
        }
        check.due(when + "sum(0)", book.sum(0), total);
    }

    private long[] encumberedByOrders() {
        long[] encumbered = new long[30];
        long orders = book.sum(2);
        for (int order = 0; order < orders; order++) {
            if (book.told(order, 2) == 1) {
                encumbered[(int) book.told(order, 0)] += book.told(order, 1);
            }
        }
        return encumbered;
    }
}
