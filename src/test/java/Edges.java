import java.math.BigInteger;
import java.util.ArrayList;
import java.util.List;

/** What the tests of the boundary cases share: a test for each case, on objects of its own. */
final class Edges {

    /** Calls that bring a new object into a state; at most 320, so that questions can follow before the 512th call. */
    interface Script {
        void on(BookIndex x);

        default Script then(Script next) {
            return x -> {
                on(x);
                next.on(x);
            };
        }

        default BookIndex made() {
            BookIndex x = new BookIndex();
            on(x);
            return x;
        }
    }

    interface Question {
        Object of(BookIndex x);
    }

    interface OfHeading {
        Object answer(BookIndex x, int heading);
    }

    static final int[] LESS_THAN_0 = {-1, -2, Integer.MIN_VALUE};
    static final int[] LESS_THAN_1 = {0, -1, Integer.MIN_VALUE};

    // A question makes two calls at most; with these and the longest script an object stays within its 512 calls.
    private static final int QUESTIONS_TO_ONE_OBJECT = 90;

    private static int edges = 0;

    private Edges() {
    }

    /** Runs the test of one case. What it throws is told as a fault, so that the other cases are tested too. */
    static void edge(String name, Runnable test) {
        edges++;
        Checks.begin(name);
        try {
            test.run();
        } catch (RuntimeException | Error thrown) {
            Checks.due("the test", thrown, "nothing thrown");
        }
    }

    static void close(String name) {
        Checks.close(name + ", " + edges + " boundary cases");
    }

    // ---- states

    static Script headings(int many) {
        return x -> {
            for (int i = 0; i < many; i++) {
                x.addHeading();
            }
        };
    }

    static Script pages(int heading, int from, int to) {
        return x -> x.addPages(heading, from, to);
    }

    static Script see(int heading, int other) {
        return x -> x.setSee(heading, other);
    }

    static Script also(int heading, int... others) {
        return x -> {
            for (int other : others) {
                x.turnSeeAlso(heading, other);
            }
        };
    }

    /** Makes a book of 100 pages one of so many; pages are put in at the end, or taken out from there. */
    static Script book(int pages) {
        return x -> {
            for (int left = 100; left > pages; left--) {
                x.takeOut(left);
            }
            for (int now = 100; now < pages; now += 100) {
                x.putIn(now + 1, Math.min(100, pages - now));
            }
        };
    }

    /** The heading has 8 spans: 1-2, 11-12 .. 71-72. */
    static Script eightSpans(int heading) {
        return x -> {
            for (int i = 0; i < 8; i++) {
                x.addPages(heading, 10 * i + 1, 10 * i + 2);
            }
        };
    }

    /** Each heading tells the next one, from the first to the last. */
    static Script chain(int first, int last) {
        return x -> {
            for (int i = first; i < last; i++) {
                x.setSee(i, i + 1);
            }
        };
    }

    // ---- checks

    static BookIndex answered(Script before, Question call, Object want) {
        BookIndex x = before.made();
        Checks.due("the call", Checks.answerOf(() -> call.of(x)), want);
        return x;
    }

    static void spansDue(BookIndex x, int heading, String want) {
        Checks.due("the spans of " + heading, Checks.spansOf(x, heading), want);
    }

    /** The call answers so, and the heading has these spans then. */
    static void answered(Script before, Question call, Object want, int heading, String spans) {
        spansDue(answered(before, call, want), heading, spans);
    }

    /** The call throws just this, and all questions are answered as by an object without that call. */
    static void refused(Script before, Question call, Class<?> want) {
        unchanged(before, call, want.getName());
    }

    static void unchanged(Script before, Question call, Object want) {
        BookIndex first = before.made();
        List<Question> questions = everyQuestion(first.headings(), first.bookPages());
        for (int from = 0; from < questions.size(); from += QUESTIONS_TO_ONE_OBJECT) {
            BookIndex called = answered(before, call, want);
            BookIndex other = before.made();
            int to = Math.min(questions.size(), from + QUESTIONS_TO_ONE_OBJECT);
            for (int i = from; i < to; i++) {
                Question question = questions.get(i);
                Checks.due("question " + i + " after the call", Checks.answerOf(() -> question.of(called)),
                        Checks.answerOf(() -> question.of(other)));
            }
        }
    }

    /** A test for each number that is no heading in this state. */
    static void noSuchHeading(String name, Script before, OfHeading call) {
        int behind = before.made().headings();
        for (int wrong : new int[] {-1, -2, Integer.MIN_VALUE, behind, 24, 32, Integer.MAX_VALUE}) {
            edge(name + " " + wrong, () -> refused(before, x -> call.answer(x, wrong), Checks.INDEX));
        }
    }

    /** What digest() is due to answer for these numbers, worked out without a limit and wrapped at the end alone. */
    static long checksum(int... numbers) {
        BigInteger d = BigInteger.valueOf(2113);
        for (int number : numbers) {
            d = d.multiply(BigInteger.valueOf(31)).add(BigInteger.valueOf(number));
        }
        return d.longValue();
    }

    // ---- questions

    private static List<Question> everyQuestion(int headings, int pages) {
        List<Question> all = new ArrayList<>(List.of(BookIndex::bookPages, BookIndex::headings, BookIndex::barePages,
                BookIndex::fullestPage, BookIndex::vainSees, BookIndex::unled, BookIndex::meanPages,
                BookIndex::digest));
        for (int page = 1; page <= pages; page++) {
            int p = page;
            all.add(x -> x.headingsOn(p));
        }
        for (int heading = 0; heading < headings; heading++) {
            addQuestionsOfOne(all, heading, pages);
            for (int other = 0; other < headings; other++) {
                addQuestionsOfTwo(all, heading, other);
            }
        }
        all.add(BookIndex::addHeading);
        return all;
    }

    private static void addQuestionsOfOne(List<Question> all, int h, int pages) {
        all.addAll(List.of(x -> x.spansOf(h), x -> x.pagesOf(h), x -> x.seeOf(h), x -> x.seeAlsosOf(h),
                x -> x.leadsTo(h), x -> x.reachOf(h), x -> x.isInRing(h), x -> x.nearest(h),
                x -> x.spansWithGap(h, 1)));
        for (int span = 0; span <= 8; span++) {
            int s = span;
            all.add(x -> x.startOf(h, s));
            all.add(x -> x.endOf(h, s));
        }
        for (int page = 1; page <= pages; page++) {
            int p = page;
            all.add(x -> x.isOn(h, p));
        }
    }

    private static void addQuestionsOfTwo(List<Question> all, int h, int other) {
        all.addAll(List.of(x -> x.steps(h, other), x -> x.commonPages(h, other), x -> x.spansTogether(h, other)));
        // Only turning it twice tells a see also where a see tells the same heading.
        all.add(x -> Checks.answerOf(() -> x.turnSeeAlso(h, other)) + ", "
                + Checks.answerOf(() -> x.turnSeeAlso(h, other)));
    }
}
