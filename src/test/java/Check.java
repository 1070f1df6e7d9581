/** Counts and prints the calls whose answer is not the one that is due. */
final class Check {
    /** What about and told answer where there is nothing to tell. */
    static final long NOTHING = -1000000000000000001L;

    private final String topic;
    private int wrong;

    Check(String topic) {
        this.topic = topic;
    }

    void due(String call, long got, long want) {
        if (got != want) {
            wrong++;
            System.out.println(topic + ": " + call + " answered " + got + ", due is " + want);
        }
    }

    void postThrows(String call, FundBook book) {
        boolean thrown = false;
        try {
            book.post();
        } catch (IllegalStateException e) {
            thrown = true;
        }
        due(call + " throws IllegalStateException (1 yes, 0 no)", thrown ? 1 : 0, 1);
    }

    /** The four amounts of a fund: GIVEN, ENCUMBERED, SPENT, and FREE as what is left of the first. */
    void amounts(String when, FundBook book, int fund, long given, long encumbered, long spent) {
        due(when + ", GIVEN of fund " + fund, book.about(fund, 0), given);
        due(when + ", ENCUMBERED of fund " + fund, book.about(fund, 1), encumbered);
        due(when + ", SPENT of fund " + fund, book.about(fund, 2), spent);
        due(when + ", FREE of fund " + fund, book.about(fund, 3), given - encumbered - spent);
    }

    void end() {
        if (wrong != 0) {
            System.out.println(topic + ": " + wrong + " answers are not as due");
            System.exit(1);
        }
    }

    /** A book of the year 2030 with so many funds of CARRY 1, each GIVEN these cents. */
    static FundBook bookWith(int funds, long cents) {
        FundBook book = new FundBook(2030);
        for (int i = 0; i < funds; i++) {
            book.fund(1);
            if (cents > 0) {
                book.give(i, cents);
            }
        }
        return book;
    }
}
