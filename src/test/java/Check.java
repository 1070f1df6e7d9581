import java.util.function.Supplier;
import java.util.function.ToLongFunction;

/** Counts and prints the calls whose answer is not the one that is due. */
final class Check {
    /** What about and told answer where there is nothing to tell. */
    static final long NOTHING = -1000000000000000001L;

    /** What {@link #answerOfPost} gives for a post that throws. */
    static final long THROWN = Long.MIN_VALUE;

    private final String topic;
    private int wrong;

    Check(String topic) {
        this.topic = topic;
    }

    void due(String call, long got, long want) {
        if (got != want) {
            wrong++;
            System.out.println(topic + ": " + call + " answered " + text(got) + ", due is " + text(want));
        }
    }

    void postThrows(String call, FundBook book) {
        due(call + ": post()", answerOfPost(book), THROWN);
    }

    /** The four amounts of a fund: GIVEN, ENCUMBERED, SPENT, and FREE as what is left of the first. */
    void amounts(String when, FundBook book, int fund, long given, long encumbered, long spent) {
        due(when + ", GIVEN of fund " + fund, book.about(fund, 0), given);
        due(when + ", ENCUMBERED of fund " + fund, book.about(fund, 1), encumbered);
        due(when + ", SPENT of fund " + fund, book.about(fund, 2), spent);
        due(when + ", FREE of fund " + fund, book.about(fund, 3), given - encumbered - spent);
    }

    /** A call that is refused, and by which nothing happens: a twin without that call answers alike ever after. */
    void refused(String call, Supplier<FundBook> scene, ToLongFunction<FundBook> deed, long want) {
        for (int seed = 0; seed < Twins.SEEDS; seed++) {
            FundBook book = scene.get();
            due(call, deed.applyAsLong(book), want);
            String difference = new Twins(book, scene.get(), seed).difference();
            due(call + ": something happened by it: " + difference + " (1 yes, 0 no)", difference.isEmpty() ? 0 : 1, 0);
        }
    }

    void end() {
        if (wrong != 0) {
            System.out.println(topic + ": " + wrong + " answers are not as due");
            System.exit(1);
        }
    }

    static long answerOfPost(FundBook book) {
        try {
            return book.post();
        } catch (IllegalStateException e) {
            return THROWN;
        }
    }

    /** A book of the year 2030 with so many funds of CARRY 1, each GIVEN these cents. */
    static FundBook bookWith(int funds, long cents) {
        FundBook book = new FundBook(2030);
        for (int i = 0; i < funds; i++) {
            book.fund(1);
            if (cents > 0) {
                book.give(i, cents);
            }
        }
        return book;
    }

    /** Persons 1 and 2 approve an order. */
    static void approveByTwo(FundBook book, int order) {
        book.approve(order, 1);
        book.approve(order, 2);
    }

    private static String text(long answer) {
        return answer == THROWN ? "throws.IllegalStateException" : Long.toString(answer);
    }
}
