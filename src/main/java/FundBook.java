/**
 * Funds of a library: budgets, orders that encumber them, invoices, transfers, batches and the closing of a year.
 *
 * Every call looks at its reasons to refuse in the order that the document tells, and changes something only
 * behind the last of them, so that a refused call leaves no trace.
 */
public final class FundBook {
    public static final int NONE = -1;
    public static final int RANGE = -2;
    public static final int STATE = -3;
    public static final int FULL = -4;
    public static final int BAND = -5;
    public static final int CURRENCY = -6;

    private static final int MOST_FUNDS = 30;
    private static final int MOST_ORDERS = 300;
    private static final int MOST_TRANSFERS = 100;
    private static final int MOST_RATES = 10;
    private static final int MOST_ROWS = 20;
    private static final int CURRENCIES = 10;
    private static final int HOUSE_CURRENCY = 0;

    private static final int LAST_YEAR = 9999;
    private static final int LAST_DAY = 100000;
    private static final int LAST_PERSON = 99;
    private static final int DAYS_OF_A_MONTH = 30;
    private static final int PERSONS_NEEDED = 2;

    private static final int MOST_CENTS = 1000000000;
    private static final int MOST_RATE = 1000000;
    private static final int WHOLE_BAND = 1000;
    private static final int FIRST_BAND = 50;
    private static final long MOST_GIFT = 1000000000000L;
    private static final long AMOUNT_LIMIT = 1000000000000000L;
    private static final long NO_ANSWER = -1000000000000000001L;

    /** An order that is only ASKED is told as this less its number, to keep clear of the constants above. */
    private static final int ASKED_BASE = -10;

    private static final int CARRY_NOTHING = 0;
    private static final int CARRY_HALF = 2;

    private static final int ASKED = 0;
    private static final int PLACED = 1;
    private static final int DONE = 2;
    private static final int CANCELLED = 3;

    private final Account[] accounts = new Account[MOST_FUNDS];
    private final Purchase[] purchases = new Purchase[MOST_ORDERS];
    private final Move[] moves = new Move[MOST_TRANSFERS];
    private final Rate[] latestRates = new Rate[CURRENCIES];
    private final Batch batch = new Batch();
    private int accountCount;
    private int purchaseCount;
    private int moveCount;
    private int currentYear;
    private int tolerance = FIRST_BAND;
    private int failingFund = NONE;

    public FundBook(int year) {
        currentYear = Math.max(0, Math.min(LAST_YEAR, year));
    }

    public int fund(int carry) {
        if (!isWithin(carry, CARRY_NOTHING, CARRY_HALF)) {
            return RANGE;
        }
        if (accountCount >= accounts.length) {
            return FULL;
        }
        int number = accountCount;
        accounts[number] = new Account(number, carry);
        accountCount++;
        return number;
    }

    public int give(int fund, long cents) {
        Account account = accountAt(fund);
        if (account == null) {
            return NONE;
        }
        if (!isWithin(cents, 1, MOST_GIFT)) {
            return RANGE;
        }
        if (!account.hasRoomFor(cents, 0, 0)) {
            return FULL;
        }
        account.given += cents;
        return 1;
    }

    public int order(int fund, int cents, boolean standing) {
        Account account = accountAt(fund);
        if (account == null) {
            return NONE;
        }
        if (!isWithin(cents, 1, MOST_CENTS)) {
            return RANGE;
        }
        if (purchaseCount >= purchases.length) {
            return FULL;
        }
        int number = purchaseCount;
        Purchase purchase = new Purchase(account, cents, standing);
        purchases[number] = purchase;
        purchaseCount++;
        if (cents > account.free()) {
            return ASKED_BASE - number;
        }
        purchase.place();
        return number;
    }

    public int approve(int order, int person) {
        Purchase purchase = purchaseAt(order);
        if (purchase == null) {
            return NONE;
        }
        if (!isWithin(person, 0, LAST_PERSON)) {
            return RANGE;
        }
        if (purchase.state != ASKED || purchase.approvals.include(person)) {
            return STATE;
        }
        purchase.approvals.add(person);
        if (purchase.approvals.count >= PERSONS_NEEDED) {
            purchase.place();
        }
        return purchase.approvals.count;
    }

    public long invoice(int order, int cents, int currency, int day) {
        Purchase purchase = purchaseAt(order);
        if (purchase == null) {
            return NONE;
        }
        if (!isWithin(cents, 1, MOST_CENTS) || !isCurrency(currency) || !isWithin(day, 0, LAST_DAY)) {
            return RANGE;
        }
        int month = day / DAYS_OF_A_MONTH;
        if (!purchase.awaitsInvoiceIn(month)) {
            return STATE;
        }
        Rate rate = rateOn(currency, day);
        if (rate == null && currency != HOUSE_CURRENCY) {
            return CURRENCY;
        }
        long houseCents = rate == null ? cents : rate.inHouse(cents);
        if (!purchase.isInBand(houseCents, tolerance)) {
            return BAND;
        }
        if (!purchase.hasRoomToPay(houseCents)) {
            return FULL;
        }
        purchase.pay(houseCents, month);
        return houseCents;
    }

    public int cancel(int order) {
        Purchase purchase = purchaseAt(order);
        if (purchase == null) {
            return NONE;
        }
        if (purchase.state == DONE || purchase.state == CANCELLED) {
            return STATE;
        }
        int released = purchase.state == PLACED ? purchase.cents : 0;
        purchase.account.encumbered -= released;
        purchase.state = CANCELLED;
        return released;
    }

    public int band(int b) {
        if (!isWithin(b, 0, WHOLE_BAND)) {
            return RANGE;
        }
        tolerance = b;
        return 1;
    }

    public int currency(int currency, int day, int up, int down) {
        if (!isCurrency(currency)) {
            return NONE;
        }
        if (!isWithin(day, 0, LAST_DAY) || !isWithin(up, 1, MOST_RATE) || !isWithin(down, 1, MOST_RATE)) {
            return RANGE;
        }
        Rate latest = latestRates[currency];
        if (latest != null && latest.day >= day) {
            return STATE;
        }
        if (latest != null && latest.rank >= MOST_RATES) {
            return FULL;
        }
        latestRates[currency] = new Rate(day, up, down, latest);
        return 1;
    }

    public int transfer(int from, int to, int cents) {
        Account source = accountAt(from);
        Account target = accountAt(to);
        if (source == null || target == null) {
            return NONE;
        }
        if (from == to || !isWithin(cents, 1, MOST_CENTS)) {
            return RANGE;
        }
        if (moveCount >= moves.length) {
            return FULL;
        }
        int number = moveCount;
        moves[number] = new Move(source, target, cents);
        moveCount++;
        return number;
    }

    public int agree(int transfer, int person) {
        Move move = moveAt(transfer);
        if (move == null) {
            return NONE;
        }
        if (!isWithin(person, 0, LAST_PERSON)) {
            return RANGE;
        }
        if (move.happened || move.approvals.include(person)) {
            return STATE;
        }
        boolean happens = move.happensWithOneMore();
        if (happens && !move.hasRoom()) {
            return FULL;
        }
        move.approvals.add(person);
        if (!happens) {
            return 1;
        }
        move.carryOut();
        return 2;
    }

    public int row(int fund, int cents) {
        Account account = accountAt(fund);
        if (account == null) {
            return NONE;
        }
        if (!isWithin(cents, -MOST_CENTS, MOST_CENTS)) {
            return RANGE;
        }
        if (batch.isFull()) {
            return FULL;
        }
        batch.add(account, cents);
        return batch.count;
    }

    public int post() throws IllegalStateException {
        int rows = batch.count;
        Account culprit = batch.culprit();
        batch.empty(culprit == null);
        if (culprit != null) {
            failingFund = culprit.number;
            throw new IllegalStateException("the batch can't be posted");
        }
        return rows;
    }

    public int failing() {
        return failingFund;
    }

    public int close() {
        if (currentYear >= LAST_YEAR) {
            return STATE;
        }
        for (Account account : accounts) {
            if (account != null) {
                account.beginYear();
            }
        }
        currentYear++;
        return currentYear;
    }

    public long about(int fund, int what) {
        Account account = accountAt(fund);
        if (account == null) {
            return NO_ANSWER;
        }
        switch (what) {
            case 0:
                return account.given;
            case 1:
                return account.encumbered;
            case 2:
                return account.spent;
            case 3:
                return account.free();
            default:
                return NO_ANSWER;
        }
    }

    public long told(int order, int what) {
        Purchase purchase = purchaseAt(order);
        if (purchase == null) {
            return NO_ANSWER;
        }
        switch (what) {
            case 0:
                return purchase.account.number;
            case 1:
                return purchase.cents;
            case 2:
                return purchase.state;
            case 3:
                return purchase.approvals.count;
            case 4:
                return purchase.latestExcess;
            case 5:
                return purchase.invoiceCount;
            default:
                return NO_ANSWER;
        }
    }

    public long sum(int which) {
        switch (which) {
            case 0:
                return givenToAll();
            case 1:
                return currentYear;
            case 2:
                return purchaseCount;
            case 3:
                return moveCount;
            default:
                return NONE;
        }
    }

    private long givenToAll() {
        long total = 0;
        for (Account account : accounts) {
            if (account != null) {
                total += account.given;
            }
        }
        return total;
    }

    private Account accountAt(int number) {
        return isWithin(number, 0, accounts.length - 1) ? accounts[number] : null;
    }

    private Purchase purchaseAt(int number) {
        return isWithin(number, 0, purchases.length - 1) ? purchases[number] : null;
    }

    private Move moveAt(int number) {
        return isWithin(number, 0, moves.length - 1) ? moves[number] : null;
    }

    private boolean isCurrency(int number) {
        return isWithin(number, 0, latestRates.length - 1);
    }

    /** The latest row of a currency with a day not above this one, or null. */
    private Rate rateOn(int currency, int day) {
        if (!isCurrency(currency)) {
            return null;
        }
        for (Rate rate = latestRates[currency]; rate != null; rate = rate.earlier) {
            if (rate.day <= day) {
                return rate;
            }
        }
        return null;
    }

    private static boolean isWithin(long number, long least, long most) {
        return number >= least && number <= most;
    }

    private static boolean isAmount(long cents) {
        return isWithin(cents, -AMOUNT_LIMIT, AMOUNT_LIMIT);
    }

    /** A fund. */
    private static final class Account {
        private final int number;
        private final int carry;
        private long given;
        private long encumbered;
        private long spent;
        /** What the rows of the open batch come to for this fund: so a post need not add them up for each row. */
        private long pending;

        Account(int number, int carry) {
            this.number = number;
            this.carry = carry;
        }

        long free() {
            return given - encumbered - spent;
        }

        boolean hasRoomFor(long moreGiven, long moreEncumbered, long moreSpent) {
            return isAmount(given + moreGiven)
                && isAmount(encumbered + moreEncumbered)
                && isAmount(spent + moreSpent)
                && isAmount(free() + moreGiven - moreEncumbered - moreSpent);
        }

        long carried() {
            long free = free();
            if (free < 0 || carry == CARRY_NOTHING) {
                return 0;
            }
            return carry == CARRY_HALF ? free / 2 : free;
        }

        void beginYear() {
            given = carried() + encumbered;
            spent = 0;
        }
    }

    /** An order. */
    private static final class Purchase {
        private final Account account;
        private final int cents;
        private final boolean standing;
        private final Approvals approvals = new Approvals();
        private int state = ASKED;
        private int invoiceCount;
        private int latestMonth = -1;
        private long latestExcess;

        Purchase(Account account, int cents, boolean standing) {
            this.account = account;
            this.cents = cents;
            this.standing = standing;
        }

        void place() {
            state = PLACED;
            account.encumbered += cents;
        }

        boolean awaitsInvoiceIn(int month) {
            return state == PLACED && (!standing || month > latestMonth);
        }

        boolean isInBand(long houseCents, int tolerance) {
            long width = (long) cents * tolerance / WHOLE_BAND;
            return isWithin(houseCents, cents - width, cents + width);
        }

        /** What an invoice frees of what is encumbered: a standing order stays encumbered with all of it. */
        int releasedByInvoice() {
            return standing ? 0 : cents;
        }

        boolean hasRoomToPay(long houseCents) {
            return account.hasRoomFor(0, -releasedByInvoice(), houseCents);
        }

        void pay(long houseCents, int month) {
            account.encumbered -= releasedByInvoice();
            account.spent += houseCents;
            latestExcess = houseCents - cents;
            latestMonth = month;
            invoiceCount++;
            if (!standing) {
                state = DONE;
            }
        }
    }

    /** A transfer. */
    private static final class Move {
        private final Account source;
        private final Account target;
        private final int cents;
        private final Approvals approvals = new Approvals();
        private boolean happened;

        Move(Account source, Account target, int cents) {
            this.source = source;
            this.target = target;
            this.cents = cents;
        }

        boolean happensWithOneMore() {
            return approvals.count + 1 >= PERSONS_NEEDED && source.free() >= cents;
        }

        boolean hasRoom() {
            return source.hasRoomFor(-cents, 0, 0) && target.hasRoomFor(cents, 0, 0);
        }

        void carryOut() {
            source.given -= cents;
            target.given += cents;
            happened = true;
        }
    }

    /** The persons who have approved something: a bit for each, since a transfer may be approved by all of them. */
    private static final class Approvals {
        private static final int BITS = 64;

        private long lowPersons;
        private long highPersons;
        private int count;

        boolean include(int person) {
            long persons = person < BITS ? lowPersons : highPersons;
            return (persons & bitOf(person)) != 0;
        }

        void add(int person) {
            if (person < BITS) {
                lowPersons |= bitOf(person);
            } else {
                highPersons |= bitOf(person);
            }
            count++;
        }

        private static long bitOf(int person) {
            return 1L << (person & (BITS - 1));
        }
    }

    /** A row of a currency, chained to the one before it. */
    private static final class Rate {
        private final int day;
        private final int up;
        private final int down;
        private final Rate earlier;
        /** How many rows the currency has up to this one. */
        private final int rank;

        Rate(int day, int up, int down, Rate earlier) {
            this.day = day;
            this.up = up;
            // A divisor must not be 0, whoever makes the row.
            this.down = Math.max(1, down);
            this.earlier = earlier;
            this.rank = earlier == null ? 1 : earlier.rank + 1;
        }

        long inHouse(int cents) {
            return (long) cents * up / down;
        }
    }

    /** The rows that wait for the next post; what they come to is kept with each fund. */
    private static final class Batch {
        private final Account[] rows = new Account[MOST_ROWS];
        private int count;
        private long total;

        boolean isFull() {
            return count >= rows.length;
        }

        void add(Account account, int cents) {
            if (isFull()) {
                return;
            }
            rows[count] = account;
            count++;
            account.pending += cents;
            total += cents;
        }

        /** The fund for which the rows can't be posted, or null if they can. */
        Account culprit() {
            Account last = null;
            for (Account account : rows) {
                if (account != null) {
                    if (account.free() + account.pending < 0) {
                        return account;
                    }
                    last = account;
                }
            }
            return total == 0 ? null : last;
        }

        void empty(boolean posted) {
            for (int i = 0; i < rows.length; i++) {
                Account account = rows[i];
                if (account != null) {
                    if (posted) {
                        account.given += account.pending;
                    }
                    // A later row of the same fund must not count it once more.
                    account.pending = 0;
                    rows[i] = null;
                }
            }
            count = 0;
            total = 0;
        }
    }
}
