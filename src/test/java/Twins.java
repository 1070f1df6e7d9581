import java.util.Random;

/**
 * Two books that should be in the same state: each call is made on both, and both must answer alike.
 *
 * First all that about, told and sum tell is looked at, then calls of every kind bring to light what they don't tell
 * (the rows of the batch, the rows of currencies, the band, who has approved what), then all is looked at again.
 */
final class Twins {
    /** So many runs of calls, each from its own seed, are tried on pairs of the same state. */
    static final int SEEDS = 6;
    /** With the looks and the band, some 200 calls: what made the books may take 310 of the 512 that are promised. */
    private static final int DEEDS = 60;
    private static final int[] CENTS = {1, 2, 5, 10, 50, 95, 100, 105, 200, 500, 1000};

    private final FundBook one;
    private final FundBook other;
    private final int seed;
    private final Random random;
    private String difference = "";

    Twins(FundBook one, FundBook other, int seed) {
        this.one = one;
        this.other = other;
        this.seed = seed;
        this.random = new Random(seed);
    }

    /** The first call that the books answered differently, with both answers; empty if there was none. */
    String difference() {
        look();
        if (seed % 2 == 0) {
            same("post", Check.answerOfPost(one), Check.answerOfPost(other));
        }
        if (seed % 3 == 0) {
            narrowToTheBand();
        }
        for (int i = 0; i < DEEDS && difference.isEmpty(); i++) {
            deed(random.nextInt(14));
        }
        look();
        return difference;
    }

    private void same(String call, long first, long second) {
        if (first != second && difference.isEmpty()) {
            difference = call + " answers " + first + " instead of " + second;
        }
    }

    private void look() {
        for (int which = 0; which < 4; which++) {
            same("sum(" + which + ")", one.sum(which), other.sum(which));
        }
        same("failing()", one.failing(), other.failing());
        lookAtFund(0);
        lookAtFund(1);
        lookAtFund(2);
        lookAtFund(29);
        int orders = (int) other.sum(2);
        for (int order = 0; order < Math.min(4, orders); order++) {
            lookAtOrder(order);
        }
        lookAtOrder(Math.max(4, orders - 1));
    }

    private void lookAtFund(int fund) {
        for (int what = 0; what < 4; what++) {
            same("about(" + fund + ", " + what + ")", one.about(fund, what), other.about(fund, what));
        }
    }

    private void lookAtOrder(int order) {
        for (int what = 0; what < 6; what++) {
            same("told(" + order + ", " + what + ")", one.told(order, what), other.told(order, what));
        }
    }

    /**
     * Invoices of a new order that come nearer to its cents one by one: which is the first to be taken tells the
     * band.
     */
    private void narrowToTheBand() {
        int order = (int) other.sum(2);
        same("order", one.order(0, 1000, false), other.order(0, 1000, false));
        for (int person = 0; person < 2; person++) {
            same("approve", one.approve(order, person), other.approve(order, person));
        }
        for (int more : new int[] {1000, 999, 500, 100, 51, 50, 21, 20, 10, 1, 0}) {
            same("invoice", one.invoice(order, 1000 + more, 0, 0), other.invoice(order, 1000 + more, 0, 0));
        }
    }

    private void deed(int kind) {
        int fund = random.nextInt(3);
        int order = random.nextInt(6);
        int cents = CENTS[random.nextInt(CENTS.length)];
        int person = random.nextInt(5);
        int day = random.nextInt(400);
        int currency = random.nextInt(3);
        switch (kind) {
            case 0 -> same("fund(2)", one.fund(2), other.fund(2));
            case 1 -> same("give", one.give(fund, cents), other.give(fund, cents));
            case 2 -> same("order", one.order(fund, cents, day < 200), other.order(fund, cents, day < 200));
            case 3, 4 -> same("approve", one.approve(order, person), other.approve(order, person));
            case 5, 6 -> same("invoice", one.invoice(order, cents, currency, day),
                other.invoice(order, cents, currency, day));
            case 7 -> same("cancel", one.cancel(order), other.cancel(order));
            case 8 -> same("currency", one.currency(currency, day, cents, 100),
                other.currency(currency, day, cents, 100));
            case 9 -> same("transfer", one.transfer(fund, 1, cents), other.transfer(fund, 1, cents));
            case 10, 11 -> same("agree", one.agree(order, person), other.agree(order, person));
            case 12 -> rows(fund, cents);
            default -> seldom(day);
        }
    }

    private void rows(int fund, int cents) {
        same("row", one.row(fund, cents), other.row(fund, cents));
        same("row", one.row(0, -cents), other.row(0, -cents));
        same("post", Check.answerOfPost(one), Check.answerOfPost(other));
    }

    /** Calls by which much of the state is gone, or all invoices are within the band. */
    private void seldom(int dice) {
        if (dice < 100) {
            same("close", one.close(), other.close());
        } else if (dice < 200) {
            same("band", one.band(dice * 5), other.band(dice * 5));
        }
    }
}
