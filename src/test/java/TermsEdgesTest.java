/** A test for each boundary case that the "Terms" of the document tell, and for a new object (promise 1). */
public final class TermsEdgesTest {

    private static final Edges.Script ALL_HEADINGS = Edges.headings(24);

    private TermsEdgesTest() {
    }

    /** All 24 headings, each with 8 spans and 4 see alsos. */
    private static Edges.Script full() {
        Edges.Script full = ALL_HEADINGS;
        for (int i = 0; i < 24; i++) {
            full = full.then(Edges.eightSpans(i));
            full = full.then(Edges.also(i, (i + 1) % 24, (i + 2) % 24, (i + 3) % 24, (i + 23) % 24));
        }
        return full;
    }

    private static void pages() {
        Edges.Script one = Edges.headings(1);
        Edges.edge("Terms: the book has 100 pages at first", () -> Edges.answered(x -> { }, BookIndex::bookPages, 100));
        Edges.edge("Terms: numbered from 1", () -> Edges.answered(one, x -> x.addPages(0, 1, 1), 1, 0, "1-1"));
        Edges.edge("Terms: no page 0", () -> Edges.refused(one, x -> x.addPages(0, 0, 0), Checks.ARGUMENT));
        Edges.edge("Terms: the last page has the number of pages",
                () -> Edges.answered(one, x -> x.addPages(0, 100, 100), 1, 0, "100-100"));
        Edges.edge("Terms: no page behind it",
                () -> Edges.refused(one, x -> x.addPages(0, 101, 101), Checks.ARGUMENT));
        Edges.edge("Terms: a book of 1 page", () -> Edges.answered(one.then(Edges.book(1)), BookIndex::bookPages, 1));
        Edges.edge("Terms: no book of 0 pages",
                () -> Edges.refused(one.then(Edges.book(1)), x -> x.takeOut(1), Checks.STATE));
        Edges.edge("Terms: a book of 300 pages",
                () -> Edges.answered(one.then(Edges.book(300)), x -> x.addPages(0, 300, 300), 1, 0, "300-300"));
        Edges.edge("Terms: no book of 301 pages",
                () -> Edges.refused(one.then(Edges.book(300)), x -> x.putIn(1, 1), Checks.STATE));
    }

    private static void headings() {
        Edges.edge("Terms: headings are numbered from 0", () -> Edges.answered(x -> { }, BookIndex::addHeading, 0));
        Edges.edge("Terms: the 24th", () -> Edges.answered(Edges.headings(23), BookIndex::addHeading, 23));
        Edges.edge("Terms: no 25th", () -> Edges.refused(ALL_HEADINGS, BookIndex::addHeading, Checks.STATE));
        Edges.edge("Terms: spans, or none", () -> Edges.answered(ALL_HEADINGS, x -> x.spansOf(23), 0));
        Edges.edge("Terms: 8 spans", () -> Edges.answered(Edges.headings(1).then(Edges.eightSpans(0)),
                x -> x.spansOf(0), 8, 0, "1-2 11-12 21-22 31-32 41-42 51-52 61-62 71-72"));
        Edges.edge("Terms: a see, or none", () -> Edges.answered(ALL_HEADINGS, x -> x.seeOf(23), -1));
        Edges.edge("Terms: no see also", () -> Edges.answered(ALL_HEADINGS, x -> x.seeAlsosOf(23), 0));
        Edges.edge("Terms: 4 see alsos",
                () -> Edges.answered(ALL_HEADINGS.then(Edges.also(23, 0, 1, 2, 22)), x -> x.seeAlsosOf(23), 4));
        Edges.edge("Terms: all headings full", () -> Edges.unchanged(full(), x -> x.addPages(23, 1, 2), 8));
        Edges.edge("Terms: a ninth span, all full",
                () -> Edges.refused(full(), x -> x.addPages(23, 100, 100), Checks.STATE));
        Edges.edge("Terms: a fifth see also, all full",
                () -> Edges.refused(full(), x -> x.turnSeeAlso(23, 10), Checks.STATE));
    }

    private static void headingWithSee() {
        Edges.Script see = Edges.headings(3).then(Edges.see(0, 1));
        Edges.edge("Terms: a heading with a see gets no span",
                () -> Edges.refused(see, x -> x.addPages(0, 1, 1), Checks.STATE));
        Edges.edge("Terms: a heading with a span gets no see",
                () -> Edges.refused(see.then(Edges.pages(2, 1, 1)), x -> x.setSee(2, 1), Checks.STATE));
        Edges.edge("Terms: the heading that is told has spans",
                () -> Edges.answered(see, x -> x.addPages(1, 1, 1), 1, 1, "1-1"));
        Edges.edge("Terms: a see and see alsos", () -> Edges.answered(see, x -> x.turnSeeAlso(0, 2), 1));
        Edges.edge("Terms: spans and see alsos",
                () -> Edges.answered(see.then(Edges.pages(2, 1, 1)), x -> x.turnSeeAlso(2, 0), 1, 2, "1-1"));
    }

    private static void spans() {
        Edges.Script one = Edges.headings(1);
        Edges.edge("Terms: a span from a page to the same",
                () -> Edges.answered(one, x -> x.addPages(0, 7, 7), 1, 0, "7-7"));
        Edges.edge("Terms: a span to the next page", () -> Edges.answered(one, x -> x.addPages(0, 7, 8), 1, 0, "7-8"));
        Edges.edge("Terms: in ascending order, put in descending order",
                () -> Edges.answered(one.then(Edges.pages(0, 9, 9)).then(Edges.pages(0, 5, 6)),
                        x -> x.addPages(0, 1, 2), 3, 0, "1-2 5-6 9-9"));
        Edges.edge("Terms: in ascending order, put between",
                () -> Edges.answered(one.then(Edges.pages(0, 9, 9)).then(Edges.pages(0, 1, 2)),
                        x -> x.addPages(0, 5, 6), 3, 0, "1-2 5-6 9-9"));
        Edges.edge("Terms: one page between two spans",
                () -> Edges.answered(one.then(Edges.pages(0, 3, 4)), x -> x.addPages(0, 6, 7), 2, 0, "3-4 6-7"));
        Edges.edge("Terms: no page between", () -> Edges.answered(one.then(Edges.pages(0, 3, 4)),
                x -> x.addPages(0, 5, 7), 1, 0, "3-7"));
    }

    private static void following() {
        Edges.Script chain = ALL_HEADINGS.then(Edges.chain(0, 23));
        Edges.edge("Terms: following ends at once", () -> Edges.answered(chain, x -> x.leadsTo(23), 23));
        Edges.edge("Terms: following over one see", () -> Edges.answered(chain, x -> x.leadsTo(22), 23));
        Edges.edge("Terms: following over 23 sees", () -> Edges.answered(chain, x -> x.leadsTo(0), 23));
        Edges.edge("Terms: it comes to the first of 24 a second time",
                () -> Edges.answered(chain.then(Edges.see(23, 0)), x -> x.leadsTo(0), -1));
        Edges.edge("Terms: it comes to the last of 24 a second time, over 25 sees",
                () -> Edges.answered(chain.then(Edges.see(23, 22)), x -> x.leadsTo(0), -1));
        Edges.edge("Terms: two that tell each other",
                () -> Edges.answered(Edges.headings(2).then(Edges.see(0, 1)).then(Edges.see(1, 0)),
                        x -> x.leadsTo(0), -1));
        Edges.edge("Terms: a see also is not followed",
                () -> Edges.answered(chain.then(Edges.also(23, 0)), x -> x.leadsTo(0), 23));
    }

    private static void ways() {
        Edges.Script ways = Edges.headings(4).then(Edges.see(0, 1)).then(Edges.also(0, 1, 2));
        Edges.edge("Terms: no step, if both are the same", () -> Edges.answered(ways, x -> x.steps(3, 3), 0));
        Edges.edge("Terms: a step to the heading told by the see", () -> Edges.answered(
                Edges.headings(2).then(Edges.see(0, 1)), x -> x.steps(0, 1), 1));
        Edges.edge("Terms: a step to each see also", () -> Edges.answered(ways, x -> x.steps(0, 2), 1));
        Edges.edge("Terms: a see and a see also to the same", () -> Edges.answered(ways, x -> x.steps(0, 1), 1));
        Edges.edge("Terms: no step against the see", () -> Edges.answered(ways, x -> x.steps(1, 0), -1));
        Edges.edge("Terms: no step against a see also", () -> Edges.answered(ways, x -> x.steps(2, 0), -1));
        Edges.edge("Terms: the see gone, the see also still leads",
                () -> Edges.answered(ways.then(Edges.see(0, -1)), x -> x.steps(0, 1), 1));
        Edges.edge("Terms: the see also gone, the see still leads",
                () -> Edges.answered(ways.then(Edges.also(0, 1)), x -> x.steps(0, 1), 1));
        Edges.edge("Terms: both gone", () -> Edges.answered(ways.then(Edges.also(0, 1)).then(Edges.see(0, -1)),
                x -> x.steps(0, 1), -1));
    }

    private static void lastCall() {
        Edges.edge("What it is: the 512th call", () -> {
            BookIndex x = ALL_HEADINGS.made();
            for (int call = 25; call < 512; call++) {
                Checks.due("call " + call, call % 2 == 0 ? x.takePages(0, 5, 5) : x.addPages(0, 5, 5), 1);
            }
            Checks.due("call 512", x.takePages(0, 1, 100), 1);
        });
        Edges.edge("What it is: the 512th call, a refused one", () -> {
            BookIndex x = ALL_HEADINGS.made();
            for (int call = 25; call < 512; call++) {
                Checks.due("call " + call, Checks.answerOf(x::addHeading), Checks.STATE.getName());
            }
            Checks.due("call 512", Checks.answerOf(x::addHeading), Checks.STATE.getName());
        });
        Edges.edge("What it is: the 512th call, a digest", () -> {
            BookIndex x = full().made();
            long first = x.digest();
            // 24 headings, 192 spans and 96 see alsos are 312 calls, and the first digest is one more.
            for (int call = 314; call <= 512; call++) {
                Checks.due("call " + call, x.digest(), first);
            }
        });
    }

    private static void newObject() {
        Edges.Script none = x -> { };
        Edges.edge("promise 1: without headings", () -> Edges.answered(none, BookIndex::headings, 0));
        Edges.edge("promise 1: all pages bare", () -> Edges.answered(none, BookIndex::barePages, 100));
        Edges.edge("promise 1: the fullest page of none", () -> Edges.answered(none, BookIndex::fullestPage, 1));
        Edges.edge("promise 1: no vain see", () -> Edges.answered(none, BookIndex::vainSees, 0));
        Edges.edge("promise 1: no heading unled", () -> Edges.answered(none, BookIndex::unled, 0));
        Edges.edge("promise 1: no mean", () -> Edges.answered(none, BookIndex::meanPages, 0.0));
        Edges.edge("promise 1: no heading on page 1", () -> Edges.answered(none, x -> x.headingsOn(1), 0));
        Edges.edge("promise 1: no heading on page 100", () -> Edges.answered(none, x -> x.headingsOn(100), 0));
        Edges.edge("promise 1: objects share nothing", () -> {
            BookIndex x = new BookIndex();
            Edges.Script other = Edges.headings(2).then(Edges.pages(0, 1, 5)).then(Edges.also(0, 1));
            other.then(Edges.book(120)).made();
            Checks.due("headings", x.headings(), 0);
            Checks.due("bookPages", x.bookPages(), 100);
            Checks.due("addHeading", x.addHeading(), 0);
            Checks.due("spansOf", x.spansOf(0), 0);
            Checks.due("seeAlsosOf", x.seeAlsosOf(0), 0);
        });
    }

    public static void main(String[] args) {
        pages();
        headings();
        headingWithSee();
        spans();
        following();
        ways();
        lastCall();
        newObject();
        Edges.close("TermsEdgesTest");
    }
}
