/** A test for each boundary case of the calls that ask, promises 9 to 32. */
public final class AnswersEdgesTest {

    private static final Edges.Script NONE = x -> { };
    private static final Edges.Script TWO = Edges.headings(2);
    private static final Edges.Script ALL_HEADINGS = Edges.headings(24);
    private static final Edges.Script FULL_SPANS = TWO.then(Edges.eightSpans(0));
    private static final int[] NO_PAGE_OF_100 = {0, -1, Integer.MIN_VALUE, 101, 102, Integer.MAX_VALUE};

    private AnswersEdgesTest() {
    }

    private static void is(String name, Edges.Script before, Edges.Question call, Object want) {
        Edges.edge(name, () -> Edges.unchanged(before, call, want));
    }

    private static void throwsAt(String name, Edges.Script before, Edges.Question call, Class<?> want) {
        Edges.edge(name, () -> Edges.refused(before, call, want));
    }

    private static void noHeadingOfOne(int promise, Edges.OfHeading call) {
        Edges.Script full = ALL_HEADINGS.then(Edges.eightSpans(0)).then(Edges.chain(1, 23));
        Edges.noSuchHeading("promise " + promise + ": of 24, no heading", full, call);
        Edges.noSuchHeading("promise " + promise + ": of 2, no heading", FULL_SPANS, call);
        throwsAt("promise " + promise + ": no heading at all", NONE, x -> call.answer(x, 0), Checks.INDEX);
    }

    private static void counts() {
        is("promise 9: at first", NONE, BookIndex::bookPages, 100);
        is("promise 9: a book of one page", Edges.book(1), BookIndex::bookPages, 1);
        is("promise 9: a full book", Edges.book(300), BookIndex::bookPages, 300);
        is("promise 9: after a refused putIn", Edges.book(300).then(x -> Checks.answerOf(() -> x.putIn(1, 1))),
                BookIndex::bookPages, 300);
        is("promise 10: none", NONE, BookIndex::headings, 0);
        is("promise 10: one", Edges.headings(1), BookIndex::headings, 1);
        is("promise 10: all", ALL_HEADINGS, BookIndex::headings, 24);
        is("promise 11: none", FULL_SPANS, x -> x.spansOf(1), 0);
        is("promise 11: one", TWO.then(Edges.pages(1, 1, 100)), x -> x.spansOf(1), 1);
        is("promise 11: 8", FULL_SPANS, x -> x.spansOf(0), 8);
        is("promise 11: of a heading with a see", TWO.then(Edges.see(1, 0)), x -> x.spansOf(1), 0);
        noHeadingOfOne(11, BookIndex::spansOf);
    }

    private static void startAndEnd() {
        Edges.Script page = TWO.then(Edges.pages(0, 7, 7));
        is("promise 12: the first span", FULL_SPANS, x -> x.startOf(0, 0), 1);
        is("promise 12: the eighth span", FULL_SPANS, x -> x.startOf(0, 7), 71);
        is("promise 12: a span of one page", page, x -> x.startOf(0, 0), 7);
        is("promise 12: page 300", TWO.then(Edges.book(300)).then(Edges.pages(0, 300, 300)), x -> x.startOf(0, 0), 300);
        is("promise 13: the first span", FULL_SPANS, x -> x.endOf(0, 0), 2);
        is("promise 13: the eighth span", FULL_SPANS, x -> x.endOf(0, 7), 72);
        is("promise 13: a span of one page", page, x -> x.endOf(0, 0), 7);
        is("promise 13: page 300", TWO.then(Edges.book(300)).then(Edges.pages(0, 1, 300)), x -> x.endOf(0, 0), 300);
        for (int span : new int[] {-1, -2, Integer.MIN_VALUE, 8, 9, 16, 17, Integer.MAX_VALUE}) {
            throwsAt("promise 12: of 8, span " + span, FULL_SPANS, x -> x.startOf(0, span), Checks.INDEX);
            throwsAt("promise 13: of 8, span " + span, FULL_SPANS, x -> x.endOf(0, span), Checks.INDEX);
        }
        throwsAt("promise 12: of one, span 1", page, x -> x.startOf(0, 1), Checks.INDEX);
        throwsAt("promise 13: of one, span 1", page, x -> x.endOf(0, 1), Checks.INDEX);
        throwsAt("promise 12: of none, span 0", page, x -> x.startOf(1, 0), Checks.INDEX);
        throwsAt("promise 13: of none, span 0", page, x -> x.endOf(1, 0), Checks.INDEX);
        Edges.Script fewer = FULL_SPANS.then(x -> x.takePages(0, 3, 72));
        throwsAt("promise 12: a span that was there before", fewer, x -> x.startOf(0, 1), Checks.INDEX);
        throwsAt("promise 13: a span that was there before", fewer, x -> x.endOf(0, 1), Checks.INDEX);
        noHeadingOfOne(12, (x, h) -> x.startOf(h, 0));
        noHeadingOfOne(13, (x, h) -> x.endOf(h, 0));
        throwsAt("promise 12: neither heading nor span", page, x -> x.startOf(2, -1), Checks.INDEX);
        throwsAt("promise 13: neither heading nor span", page, x -> x.endOf(2, -1), Checks.INDEX);
    }

    private static void pagesAndSees() {
        is("promise 14: none", TWO, x -> x.pagesOf(0), 0);
        is("promise 14: one", TWO.then(Edges.pages(0, 100, 100)), x -> x.pagesOf(0), 1);
        is("promise 14: 8 spans", FULL_SPANS, x -> x.pagesOf(0), 16);
        is("promise 14: all of 300", TWO.then(Edges.book(300)).then(Edges.pages(0, 1, 300)), x -> x.pagesOf(0), 300);
        is("promise 14: one of one", TWO.then(Edges.book(1)).then(Edges.pages(0, 1, 1)), x -> x.pagesOf(0), 1);
        is("promise 14: put in twice, counted once", TWO.then(Edges.pages(0, 5, 9)).then(Edges.pages(0, 7, 12)),
                x -> x.pagesOf(0), 8);
        is("promise 14: a see to one with pages", FULL_SPANS.then(Edges.see(1, 0)), x -> x.pagesOf(1), 0);
        noHeadingOfOne(14, BookIndex::pagesOf);
        is("promise 15: none", TWO, x -> x.seeOf(1), -1);
        is("promise 15: heading 0", TWO.then(Edges.see(1, 0)), x -> x.seeOf(1), 0);
        is("promise 15: heading 23", ALL_HEADINGS.then(Edges.see(0, 23)), x -> x.seeOf(0), 23);
        is("promise 15: gone", TWO.then(Edges.see(1, 0)).then(Edges.see(1, -1)), x -> x.seeOf(1), -1);
        is("promise 15: a see also is none", TWO.then(Edges.also(1, 0)), x -> x.seeOf(1), -1);
        is("promise 15: the one told, not where it ends", ALL_HEADINGS.then(Edges.chain(0, 23)), x -> x.seeOf(0), 1);
        noHeadingOfOne(15, BookIndex::seeOf);
        is("promise 16: none", TWO, x -> x.seeAlsosOf(0), 0);
        is("promise 16: one", TWO.then(Edges.also(0, 1)), x -> x.seeAlsosOf(0), 1);
        is("promise 16: 4", ALL_HEADINGS.then(Edges.also(23, 0, 7, 8, 22)), x -> x.seeAlsosOf(23), 4);
        is("promise 16: gone", TWO.then(Edges.also(0, 1, 1)), x -> x.seeAlsosOf(0), 0);
        is("promise 16: a see is none", TWO.then(Edges.see(0, 1)), x -> x.seeAlsosOf(0), 0);
        is("promise 16: told by one", TWO.then(Edges.also(0, 1)), x -> x.seeAlsosOf(1), 0);
        noHeadingOfOne(16, BookIndex::seeAlsosOf);
    }

    private static void isOn() {
        Edges.Script spans = TWO.then(Edges.pages(0, 1, 1)).then(Edges.pages(0, 10, 12)).then(Edges.pages(0, 100, 100));
        is("promise 17: page 1", spans, x -> x.isOn(0, 1), true);
        is("promise 17: ahead of a span", spans, x -> x.isOn(0, 9), false);
        is("promise 17: the first of a span", spans, x -> x.isOn(0, 10), true);
        is("promise 17: within a span", spans, x -> x.isOn(0, 11), true);
        is("promise 17: the last of a span", spans, x -> x.isOn(0, 12), true);
        is("promise 17: behind a span", spans, x -> x.isOn(0, 13), false);
        is("promise 17: the last page", spans, x -> x.isOn(0, 100), true);
        is("promise 17: without pages", spans, x -> x.isOn(1, 1), false);
        is("promise 17: a see to one that is", spans.then(Edges.see(1, 0)), x -> x.isOn(1, 1), false);
        is("promise 17: page 300", TWO.then(Edges.book(300)).then(Edges.pages(0, 300, 300)), x -> x.isOn(0, 300), true);
        Edges.Script taken = spans.then(x -> x.takePages(0, 100, 100));
        is("promise 17: the last span is taken", taken, x -> x.isOn(0, 100), false);
        is("promise 17: a span ahead of it is not", taken, x -> x.isOn(0, 10), true);
        is("promise 17: all are taken", spans.then(x -> x.takePages(0, 1, 100)), x -> x.isOn(0, 1), false);
        is("promise 17: the page is taken out of the book", spans.then(x -> x.takeOut(100)), x -> x.isOn(0, 99), false);
        for (int page : NO_PAGE_OF_100) {
            throwsAt("promise 17: page " + page, spans, x -> x.isOn(0, page), Checks.ARGUMENT);
        }
        throwsAt("promise 17: behind a shorter book", spans.then(Edges.book(99)), x -> x.isOn(0, 100), Checks.ARGUMENT);
        throwsAt("promise 17: behind 300 pages", spans.then(Edges.book(300)), x -> x.isOn(0, 301), Checks.ARGUMENT);
        throwsAt("promise 17: neither heading nor page", spans, x -> x.isOn(2, 0), Checks.INDEX);
        throwsAt("promise 17: neither heading nor page, behind", spans, x -> x.isOn(-1, 101), Checks.INDEX);
        noHeadingOfOne(17, (x, h) -> x.isOn(h, 1));
    }

    private static void headingsOn() {
        Edges.Script all = ALL_HEADINGS.then(x -> {
            for (int h = 0; h < 24; h++) {
                x.addPages(h, 1, h + 1);
            }
        });
        is("promise 18: all on page 1", all, x -> x.headingsOn(1), 24);
        is("promise 18: one on its last page", all, x -> x.headingsOn(24), 1);
        is("promise 18: none behind it", all, x -> x.headingsOn(25), 0);
        is("promise 18: none on the last page", all, x -> x.headingsOn(100), 0);
        is("promise 18: one on the last page", all.then(Edges.pages(23, 100, 100)), x -> x.headingsOn(100), 1);
        is("promise 18: pages that are taken", all.then(x -> x.takePages(23, 24, 24)), x -> x.headingsOn(24), 0);
        is("promise 18: without headings", NONE, x -> x.headingsOn(100), 0);
        for (int page : NO_PAGE_OF_100) {
            throwsAt("promise 18: page " + page, all, x -> x.headingsOn(page), Checks.ARGUMENT);
        }
        throwsAt("promise 18: without headings, page 0", NONE, x -> x.headingsOn(0), Checks.ARGUMENT);
        throwsAt("promise 18: behind the only page", Edges.book(1), x -> x.headingsOn(2), Checks.ARGUMENT);
        throwsAt("promise 18: behind 300 pages", Edges.book(300), x -> x.headingsOn(301), Checks.ARGUMENT);
    }

    private static void barePages() {
        is("promise 19: without headings", NONE, BookIndex::barePages, 100);
        is("promise 19: without pages of them", ALL_HEADINGS, BookIndex::barePages, 100);
        is("promise 19: none", TWO.then(Edges.pages(0, 1, 100)), BookIndex::barePages, 0);
        is("promise 19: none, by two", TWO.then(Edges.pages(0, 1, 50)).then(Edges.pages(1, 51, 100)),
                BookIndex::barePages, 0);
        is("promise 19: page 1 alone", TWO.then(Edges.pages(0, 2, 100)), BookIndex::barePages, 1);
        is("promise 19: the last page alone", TWO.then(Edges.pages(0, 1, 99)), BookIndex::barePages, 1);
        is("promise 19: a page of both counts once", TWO.then(Edges.pages(0, 1, 50)).then(Edges.pages(1, 50, 60)),
                BookIndex::barePages, 40);
        is("promise 19: that start as one", TWO.then(Edges.pages(0, 5, 9)).then(Edges.pages(1, 5, 7)),
                BookIndex::barePages, 95);
        is("promise 19: that end as one", TWO.then(Edges.pages(0, 5, 9)).then(Edges.pages(1, 7, 9)),
                BookIndex::barePages, 95);
        is("promise 19: that end as one at the last page",
                TWO.then(Edges.pages(0, 50, 100)).then(Edges.pages(1, 51, 100)), BookIndex::barePages, 49);
        is("promise 19: that are the same", TWO.then(Edges.pages(0, 5, 9)).then(Edges.pages(1, 5, 9)),
                BookIndex::barePages, 95);
        is("promise 19: taken", TWO.then(Edges.pages(0, 5, 9)).then(x -> x.takePages(0, 5, 9)),
                BookIndex::barePages, 100);
        is("promise 19: taken from one of two", TWO.then(Edges.pages(0, 5, 9)).then(Edges.pages(1, 5, 9))
                .then(x -> x.takePages(0, 5, 9)), BookIndex::barePages, 95);
        is("promise 19: the only page", Edges.headings(1).then(Edges.book(1)), BookIndex::barePages, 1);
        is("promise 19: not the only page", Edges.headings(1).then(Edges.book(1)).then(Edges.pages(0, 1, 1)),
                BookIndex::barePages, 0);
        is("promise 19: 300", Edges.book(300), BookIndex::barePages, 300);
        is("promise 19: page 300 is not", TWO.then(Edges.book(300)).then(Edges.pages(0, 300, 300)),
                BookIndex::barePages, 299);
        is("promise 19: none of 300", TWO.then(Edges.book(300)).then(Edges.pages(0, 1, 300)), BookIndex::barePages, 0);
        is("promise 19: put in at the end", TWO.then(Edges.pages(0, 1, 100)).then(Edges.book(101)),
                BookIndex::barePages, 1);
    }

    private static void fullestPage() {
        is("promise 20: without headings", NONE, BookIndex::fullestPage, 1);
        is("promise 20: without pages of them", ALL_HEADINGS, BookIndex::fullestPage, 1);
        is("promise 20: page 1", TWO.then(Edges.pages(0, 1, 1)), BookIndex::fullestPage, 1);
        is("promise 20: page 2", TWO.then(Edges.pages(0, 2, 2)), BookIndex::fullestPage, 2);
        is("promise 20: the last page", TWO.then(Edges.pages(0, 100, 100)), BookIndex::fullestPage, 100);
        is("promise 20: page 300", TWO.then(Edges.book(300)).then(Edges.pages(0, 300, 300)),
                BookIndex::fullestPage, 300);
        is("promise 20: all the same", TWO.then(Edges.pages(0, 1, 100)), BookIndex::fullestPage, 1);
        is("promise 20: the smallest of a span", TWO.then(Edges.pages(0, 40, 50)), BookIndex::fullestPage, 40);
        is("promise 20: the smallest of two spans", TWO.then(Edges.pages(0, 40, 50)).then(Edges.pages(1, 30, 30)),
                BookIndex::fullestPage, 30);
        is("promise 20: the last of one and the first of the other",
                TWO.then(Edges.pages(0, 40, 50)).then(Edges.pages(1, 50, 60)), BookIndex::fullestPage, 50);
        is("promise 20: side by side", TWO.then(Edges.pages(0, 51, 60)).then(Edges.pages(1, 40, 50)),
                BookIndex::fullestPage, 40);
        is("promise 20: two that start as one", Edges.headings(3).then(Edges.pages(0, 40, 50))
                .then(Edges.pages(1, 40, 45)).then(Edges.pages(2, 10, 20)), BookIndex::fullestPage, 40);
        is("promise 20: two that end as one", Edges.headings(3).then(Edges.pages(0, 40, 50))
                .then(Edges.pages(1, 45, 50)).then(Edges.pages(2, 10, 20)), BookIndex::fullestPage, 45);
        is("promise 20: two that end as one, and then two more", Edges.headings(3).then(Edges.pages(0, 1, 9))
                .then(Edges.pages(1, 3, 9)).then(Edges.pages(0, 20, 20)).then(Edges.pages(1, 20, 20))
                .then(Edges.pages(2, 20, 20)), BookIndex::fullestPage, 20);
        is("promise 20: taken", TWO.then(Edges.pages(0, 5, 9)).then(Edges.pages(1, 9, 9))
                .then(x -> x.takePages(1, 9, 9)), BookIndex::fullestPage, 5);
        is("promise 20: one more on the last page", TWO.then(Edges.pages(0, 1, 100)).then(Edges.pages(1, 100, 100)),
                BookIndex::fullestPage, 100);
        is("promise 20: the only page", TWO.then(Edges.book(1)), BookIndex::fullestPage, 1);
    }

    private static void leadsTo() {
        Edges.Script chain = ALL_HEADINGS.then(Edges.chain(0, 23));
        Edges.Script ring = chain.then(Edges.see(23, 0));
        is("promise 21: itself, if it has no see", TWO, x -> x.leadsTo(1), 1);
        is("promise 21: itself, with pages", FULL_SPANS, x -> x.leadsTo(0), 0);
        is("promise 21: itself, with a see also", TWO.then(Edges.also(0, 1)), x -> x.leadsTo(0), 0);
        is("promise 21: told by one", TWO.then(Edges.see(0, 1)), x -> x.leadsTo(1), 1);
        is("promise 21: over one see", TWO.then(Edges.see(0, 1)), x -> x.leadsTo(0), 1);
        is("promise 21: over 23 sees", chain, x -> x.leadsTo(0), 23);
        is("promise 21: a ring of two", TWO.then(Edges.see(0, 1)).then(Edges.see(1, 0)), x -> x.leadsTo(1), -1);
        is("promise 21: a ring of 24", ring, x -> x.leadsTo(7), -1);
        is("promise 21: into a ring", chain.then(Edges.see(23, 21)), x -> x.leadsTo(20), -1);
        is("promise 21: ahead of a ring, not into it", ring.then(Edges.see(5, -1)), x -> x.leadsTo(6), 5);
        is("promise 21: two headings, over one see to the last", TWO.then(Edges.see(1, 0)), x -> x.leadsTo(1), 0);
        noHeadingOfOne(21, BookIndex::leadsTo);
    }

    private static void vainSees() {
        Edges.Script chain = ALL_HEADINGS.then(Edges.chain(0, 23));
        is("promise 22: without headings", NONE, BookIndex::vainSees, 0);
        is("promise 22: without sees", ALL_HEADINGS, BookIndex::vainSees, 0);
        is("promise 22: without sees, but see alsos", TWO.then(Edges.also(0, 1)), BookIndex::vainSees, 0);
        is("promise 22: to one without pages", TWO.then(Edges.see(0, 1)), BookIndex::vainSees, 1);
        is("promise 22: to one with one page", TWO.then(Edges.see(0, 1)).then(Edges.pages(1, 100, 100)),
                BookIndex::vainSees, 0);
        is("promise 22: to one with pages no more", TWO.then(Edges.see(0, 1)).then(Edges.pages(1, 9, 9))
                .then(x -> x.takeOut(9)), BookIndex::vainSees, 1);
        is("promise 22: a see also to one with pages does not help", Edges.headings(3).then(Edges.see(0, 1))
                .then(Edges.also(0, 2)).then(Edges.also(1, 2)).then(Edges.pages(2, 1, 1)), BookIndex::vainSees, 1);
        is("promise 22: 23 that end at one without pages", chain, BookIndex::vainSees, 23);
        is("promise 22: 23 that end at one with pages", chain.then(Edges.pages(23, 1, 1)), BookIndex::vainSees, 0);
        is("promise 22: a ring of 24", chain.then(Edges.see(23, 0)), BookIndex::vainSees, 24);
        is("promise 22: a ring, and a way into it", chain.then(Edges.see(23, 22)), BookIndex::vainSees, 24);
        is("promise 22: a ring of two, and one with pages", Edges.headings(4).then(Edges.see(0, 1))
                .then(Edges.see(1, 0)).then(Edges.see(2, 3)).then(Edges.pages(3, 1, 1)), BookIndex::vainSees, 2);
    }

    private static void steps() {
        Edges.Script chain = ALL_HEADINGS.then(Edges.chain(0, 23));
        Edges.Script ring = chain.then(Edges.also(23, 0));
        is("promise 23: to itself", TWO, x -> x.steps(1, 1), 0);
        is("promise 23: to itself, in a ring", ring, x -> x.steps(1, 1), 0);
        is("promise 23: no way", TWO, x -> x.steps(0, 1), -1);
        is("promise 23: one step", chain, x -> x.steps(0, 1), 1);
        is("promise 23: 22 steps", chain, x -> x.steps(1, 23), 22);
        is("promise 23: 23 steps", chain, x -> x.steps(0, 23), 23);
        is("promise 23: not back", chain, x -> x.steps(23, 0), -1);
        is("promise 23: 23 steps, over the end of a ring", ring, x -> x.steps(12, 11), 23);
        is("promise 23: the fewest of two ways", ring.then(Edges.also(0, 22)), x -> x.steps(0, 23), 2);
        is("promise 23: of two ways with the same steps", Edges.headings(4).then(Edges.also(0, 1, 2))
                .then(Edges.also(1, 3)).then(Edges.also(2, 3)), x -> x.steps(0, 3), 2);
        is("promise 23: out of a ring", Edges.headings(3).then(Edges.also(0, 1)).then(Edges.also(1, 0, 2)),
                x -> x.steps(0, 2), 2);
        is("promise 23: from a ring that does not lead there", Edges.headings(3).then(Edges.also(0, 1))
                .then(Edges.also(1, 0)), x -> x.steps(0, 2), -1);
        noHeadingOfOne(23, (x, h) -> x.steps(h, 0));
        noHeadingOfOne(23, (x, h) -> x.steps(0, h));
        noHeadingOfOne(23, (x, h) -> x.steps(h, h));
    }

    private static void reachOf() {
        Edges.Script chain = ALL_HEADINGS.then(Edges.chain(0, 23));
        is("promise 24: itself", TWO, x -> x.reachOf(0), 1);
        is("promise 24: itself, told by one", chain, x -> x.reachOf(23), 1);
        is("promise 24: one more", chain, x -> x.reachOf(22), 2);
        is("promise 24: all 24, at the end of 23 steps", chain, x -> x.reachOf(0), 24);
        is("promise 24: a ring of 24", chain.then(Edges.also(23, 0)), x -> x.reachOf(23), 24);
        is("promise 24: a ring counts each once", TWO.then(Edges.see(0, 1)).then(Edges.see(1, 0)),
                x -> x.reachOf(0), 2);
        is("promise 24: 4 see alsos and a see", Edges.headings(6).then(Edges.also(0, 1, 2, 3, 4)).then(Edges.see(0, 5)),
                x -> x.reachOf(0), 6);
        is("promise 24: a see and a see also to the same", TWO.then(Edges.see(0, 1)).then(Edges.also(0, 1)),
                x -> x.reachOf(0), 2);
        is("promise 24: over two ways to the same", Edges.headings(4).then(Edges.also(0, 1, 2))
                .then(Edges.also(1, 3)).then(Edges.also(2, 3)), x -> x.reachOf(0), 4);
        noHeadingOfOne(24, BookIndex::reachOf);
    }

    private static void isInRing() {
        Edges.Script chain = ALL_HEADINGS.then(Edges.chain(0, 23));
        is("promise 25: no steps at all", TWO, x -> x.isInRing(0), false);
        is("promise 25: steps that do not come back", chain, x -> x.isInRing(0), false);
        is("promise 25: two sees", TWO.then(Edges.see(0, 1)).then(Edges.see(1, 0)), x -> x.isInRing(0), true);
        is("promise 25: two see alsos", TWO.then(Edges.also(0, 1)).then(Edges.also(1, 0)), x -> x.isInRing(1), true);
        is("promise 25: a see and a see also", TWO.then(Edges.see(0, 1)).then(Edges.also(1, 0)), x -> x.isInRing(1),
                true);
        is("promise 25: a see and a see also to the same", TWO.then(Edges.see(0, 1)).then(Edges.also(0, 1)),
                x -> x.isInRing(0), false);
        is("promise 25: a ring of 24, the first", chain.then(Edges.also(23, 0)), x -> x.isInRing(0), true);
        is("promise 25: a ring of 24, the last", chain.then(Edges.see(23, 0)), x -> x.isInRing(23), true);
        is("promise 25: ahead of a ring", chain.then(Edges.see(23, 1)), x -> x.isInRing(0), false);
        is("promise 25: the first of a ring of 23", chain.then(Edges.see(23, 1)), x -> x.isInRing(1), true);
        is("promise 25: behind a ring", Edges.headings(3).then(Edges.also(0, 1)).then(Edges.also(1, 0, 2)),
                x -> x.isInRing(2), false);
        is("promise 25: a ring that is no more", TWO.then(Edges.also(0, 1)).then(Edges.also(1, 0, 0)),
                x -> x.isInRing(0), false);
        noHeadingOfOne(25, BookIndex::isInRing);
    }

    private static void unled() {
        Edges.Script chain = ALL_HEADINGS.then(Edges.chain(0, 23));
        is("promise 26: without headings", NONE, BookIndex::unled, 0);
        is("promise 26: one heading", Edges.headings(1), BookIndex::unled, 1);
        is("promise 26: without steps", ALL_HEADINGS, BookIndex::unled, 24);
        is("promise 26: the first of 24", chain, BookIndex::unled, 1);
        is("promise 26: none", chain.then(Edges.see(23, 0)), BookIndex::unled, 0);
        is("promise 26: none, by a see also", chain.then(Edges.also(23, 0)), BookIndex::unled, 0);
        is("promise 26: to heading 0", TWO.then(Edges.see(1, 0)), BookIndex::unled, 1);
        is("promise 26: led to twice", Edges.headings(3).then(Edges.see(0, 2)).then(Edges.also(1, 2)),
                BookIndex::unled, 2);
        is("promise 26: the see gone", TWO.then(Edges.see(1, 0)).then(Edges.see(1, -1)), BookIndex::unled, 2);
        is("promise 26: the see also gone", TWO.then(Edges.also(1, 0, 0)), BookIndex::unled, 2);
        is("promise 26: pages do not lead", FULL_SPANS, BookIndex::unled, 2);
    }

    private static void spansWithGap() {
        Edges.Script gaps = TWO.then(Edges.book(210)).then(Edges.pages(0, 1, 1)).then(Edges.pages(0, 3, 3))
                .then(Edges.pages(0, 104, 104)).then(Edges.pages(0, 206, 206));
        is("promise 27: gap 0", gaps, x -> x.spansWithGap(0, 0), 4);
        is("promise 27: just so many pages between", gaps, x -> x.spansWithGap(0, 1), 3);
        is("promise 27: one page more between", gaps, x -> x.spansWithGap(0, 99), 3);
        is("promise 27: gap 100, 100 and 101 pages between", gaps, x -> x.spansWithGap(0, 100), 2);
        is("promise 27: without pages, gap 0", gaps, x -> x.spansWithGap(1, 0), 0);
        is("promise 27: without pages, gap 100", gaps, x -> x.spansWithGap(1, 100), 0);
        is("promise 27: one span", TWO.then(Edges.pages(0, 5, 5)), x -> x.spansWithGap(0, 100), 1);
        is("promise 27: 8 spans, gap 7", FULL_SPANS, x -> x.spansWithGap(0, 7), 8);
        is("promise 27: 8 spans, gap 8", FULL_SPANS, x -> x.spansWithGap(0, 8), 1);
        is("promise 27: 8 spans, gap 0", FULL_SPANS, x -> x.spansWithGap(0, 0), 8);
        is("promise 27: spans that are taken", gaps.then(x -> x.takePages(0, 3, 206)), x -> x.spansWithGap(0, 0), 1);
        for (int gap : new int[] {-1, -2, Integer.MIN_VALUE, 101, 102, Integer.MAX_VALUE}) {
            throwsAt("promise 27: gap " + gap, gaps, x -> x.spansWithGap(0, gap), Checks.ARGUMENT);
            throwsAt("promise 27: without pages, gap " + gap, gaps, x -> x.spansWithGap(1, gap), Checks.ARGUMENT);
        }
        throwsAt("promise 27: no heading, gap -1", gaps, x -> x.spansWithGap(2, -1), Checks.INDEX);
        throwsAt("promise 27: no heading, gap 101", gaps, x -> x.spansWithGap(-1, 101), Checks.INDEX);
        noHeadingOfOne(27, (x, h) -> x.spansWithGap(h, 0));
    }

    private static void commonPages() {
        Edges.Script apart = TWO.then(Edges.pages(0, 10, 20));
        is("promise 28: neither has pages", TWO, x -> x.commonPages(0, 1), 0);
        is("promise 28: one has none", apart, x -> x.commonPages(0, 1), 0);
        is("promise 28: the other has none", apart, x -> x.commonPages(1, 0), 0);
        is("promise 28: both are the same", apart, x -> x.commonPages(0, 0), 11);
        is("promise 28: both are the same, without pages", apart, x -> x.commonPages(1, 1), 0);
        is("promise 28: side by side, behind", apart.then(Edges.pages(1, 21, 30)), x -> x.commonPages(0, 1), 0);
        is("promise 28: side by side, ahead", apart.then(Edges.pages(1, 5, 9)), x -> x.commonPages(0, 1), 0);
        is("promise 28: the last page", apart.then(Edges.pages(1, 20, 30)), x -> x.commonPages(0, 1), 1);
        is("promise 28: the first page", apart.then(Edges.pages(1, 5, 10)), x -> x.commonPages(0, 1), 1);
        is("promise 28: within", apart.then(Edges.pages(1, 11, 19)), x -> x.commonPages(0, 1), 9);
        is("promise 28: around", apart.then(Edges.pages(1, 9, 21)), x -> x.commonPages(0, 1), 11);
        is("promise 28: the same pages", apart.then(Edges.pages(1, 10, 20)), x -> x.commonPages(0, 1), 11);
        is("promise 28: 8 spans and 8 between", FULL_SPANS.then(x -> {
            for (int i = 0; i < 8; i++) {
                x.addPages(1, 10 * i + 3, 10 * i + 10);
            }
        }), x -> x.commonPages(0, 1), 0);
        is("promise 28: 8 spans and one over all", FULL_SPANS.then(Edges.pages(1, 1, 100)),
                x -> x.commonPages(0, 1), 16);
        is("promise 28: one over all and 8 spans", FULL_SPANS.then(Edges.pages(1, 1, 100)),
                x -> x.commonPages(1, 0), 16);
        is("promise 28: far behind", apart.then(Edges.pages(1, 90, 95)), x -> x.commonPages(0, 1), 0);
        is("promise 28: far ahead", apart.then(Edges.pages(1, 1, 2)), x -> x.commonPages(0, 1), 0);
        is("promise 28: two far apart from the first, and one in common",
                apart.then(Edges.pages(1, 1, 2)).then(Edges.pages(1, 5, 6)).then(Edges.pages(1, 20, 30)),
                x -> x.commonPages(0, 1), 1);
        is("promise 28: the ends of one that goes from span to span",
                apart.then(Edges.pages(0, 30, 40)).then(Edges.pages(1, 20, 30)), x -> x.commonPages(0, 1), 2);
        is("promise 28: the ends of one that goes from span to span, the other way",
                apart.then(Edges.pages(0, 30, 40)).then(Edges.pages(1, 20, 30)), x -> x.commonPages(1, 0), 2);
        is("promise 28: pages that are taken", apart.then(Edges.pages(0, 30, 40)).then(Edges.pages(1, 1, 100))
                .then(x -> x.takePages(0, 30, 40)), x -> x.commonPages(0, 1), 11);
        is("promise 28: pages that are taken, the other way", apart.then(Edges.pages(0, 30, 40))
                .then(Edges.pages(1, 1, 100)).then(x -> x.takePages(0, 30, 40)), x -> x.commonPages(1, 0), 11);
        is("promise 28: all 300", TWO.then(Edges.book(300)).then(Edges.pages(0, 1, 300)).then(Edges.pages(1, 1, 300)),
                x -> x.commonPages(0, 1), 300);
        noHeadingOfOne(28, (x, h) -> x.commonPages(h, 0));
        noHeadingOfOne(28, (x, h) -> x.commonPages(0, h));
        noHeadingOfOne(28, (x, h) -> x.commonPages(h, h));
    }

    private static void nearest() {
        Edges.Script pages = Edges.headings(4).then(Edges.pages(1, 10, 20));
        is("promise 29: the only heading", Edges.headings(1).then(Edges.pages(0, 1, 1)), x -> x.nearest(0), -1);
        is("promise 29: no other one has pages", pages, x -> x.nearest(1), -1);
        is("promise 29: it has no pages", pages, x -> x.nearest(0), -1);
        is("promise 29: none in common, side by side", pages.then(Edges.pages(0, 5, 9)).then(Edges.pages(2, 21, 30)),
                x -> x.nearest(1), -1);
        is("promise 29: one page in common, with heading 0", pages.then(Edges.pages(0, 5, 10)), x -> x.nearest(1), 0);
        is("promise 29: one page in common, with the last", pages.then(Edges.pages(3, 20, 30)), x -> x.nearest(1), 3);
        is("promise 29: the smallest of two, around it",
                pages.then(Edges.pages(0, 20, 20)).then(Edges.pages(2, 10, 10)), x -> x.nearest(1), 0);
        is("promise 29: the smallest of two, behind it",
                pages.then(Edges.pages(3, 20, 20)).then(Edges.pages(2, 10, 10)), x -> x.nearest(1), 2);
        is("promise 29: one page more", pages.then(Edges.pages(0, 20, 20)).then(Edges.pages(3, 10, 11)),
                x -> x.nearest(1), 3);
        is("promise 29: one page less", pages.then(Edges.pages(0, 19, 20)).then(Edges.pages(3, 10, 10)),
                x -> x.nearest(1), 0);
        is("promise 29: the last of 24", ALL_HEADINGS.then(Edges.pages(0, 1, 1)).then(Edges.pages(23, 1, 1)),
                x -> x.nearest(0), 23);
        is("promise 29: of the last of 24", ALL_HEADINGS.then(Edges.pages(0, 1, 1)).then(Edges.pages(23, 1, 1)),
                x -> x.nearest(23), 0);
        noHeadingOfOne(29, BookIndex::nearest);
    }

    private static void spansTogether() {
        Edges.Script between = FULL_SPANS.then(x -> {
            for (int i = 0; i < 8; i++) {
                x.addPages(1, 10 * i + 5, 10 * i + 6);
            }
        });
        Edges.Script one = TWO.then(Edges.pages(0, 10, 20));
        is("promise 30: neither has pages", TWO, x -> x.spansTogether(0, 1), 0);
        is("promise 30: both are the same, without pages", TWO, x -> x.spansTogether(1, 1), 0);
        is("promise 30: both are the same", FULL_SPANS, x -> x.spansTogether(0, 0), 8);
        is("promise 30: one has none", FULL_SPANS, x -> x.spansTogether(1, 0), 8);
        is("promise 30: the other has none", FULL_SPANS, x -> x.spansTogether(0, 1), 8);
        is("promise 30: 9", FULL_SPANS.then(Edges.pages(1, 4, 4)), x -> x.spansTogether(0, 1), 9);
        is("promise 30: 16", between, x -> x.spansTogether(0, 1), 16);
        is("promise 30: 16, the other way", between, x -> x.spansTogether(1, 0), 16);
        is("promise 30: a page between, behind", one.then(Edges.pages(1, 22, 30)), x -> x.spansTogether(0, 1), 2);
        is("promise 30: no page between, behind", one.then(Edges.pages(1, 21, 30)), x -> x.spansTogether(0, 1), 1);
        is("promise 30: a page between, ahead", one.then(Edges.pages(1, 5, 8)), x -> x.spansTogether(0, 1), 2);
        is("promise 30: no page between, ahead", one.then(Edges.pages(1, 5, 9)), x -> x.spansTogether(0, 1), 1);
        is("promise 30: a page in common", one.then(Edges.pages(1, 20, 30)), x -> x.spansTogether(0, 1), 1);
        is("promise 30: the same pages", one.then(Edges.pages(1, 10, 20)), x -> x.spansTogether(0, 1), 1);
        is("promise 30: 8 spans that fill up 8", FULL_SPANS.then(x -> {
            for (int i = 0; i < 8; i++) {
                x.addPages(1, 10 * i + 3, 10 * i + 10);
            }
        }), x -> x.spansTogether(0, 1), 1);
        is("promise 30: pages that are taken", FULL_SPANS.then(Edges.pages(1, 90, 90))
                .then(x -> x.takePages(0, 3, 72)), x -> x.spansTogether(0, 1), 2);
        is("promise 30: 8 spans within one", FULL_SPANS.then(Edges.pages(1, 1, 72)), x -> x.spansTogether(0, 1), 1);
        is("promise 30: 8 spans and one over the inner", FULL_SPANS.then(Edges.pages(1, 4, 69)),
                x -> x.spansTogether(0, 1), 3);
        noHeadingOfOne(30, (x, h) -> x.spansTogether(h, 0));
        noHeadingOfOne(30, (x, h) -> x.spansTogether(0, h));
        noHeadingOfOne(30, (x, h) -> x.spansTogether(h, h));
    }

    private static void meanPages() {
        is("promise 31: without headings", NONE, BookIndex::meanPages, 0.0);
        is("promise 31: without pages", ALL_HEADINGS, BookIndex::meanPages, 0.0);
        is("promise 31: one of one", Edges.headings(1).then(Edges.pages(0, 1, 1)), BookIndex::meanPages, 1.0);
        is("promise 31: those without pages do not count", ALL_HEADINGS.then(Edges.pages(23, 1, 7)),
                BookIndex::meanPages, 7.0);
        is("promise 31: those with a see do not count", TWO.then(Edges.pages(0, 1, 7)).then(Edges.see(1, 0)),
                BookIndex::meanPages, 7.0);
        is("promise 31: a half", TWO.then(Edges.pages(0, 1, 1)).then(Edges.pages(1, 1, 2)), BookIndex::meanPages, 1.5);
        is("promise 31: a third", Edges.headings(3).then(Edges.pages(0, 1, 1)).then(Edges.pages(1, 1, 1))
                .then(Edges.pages(2, 1, 2)), BookIndex::meanPages, 4.0 / 3.0);
        is("promise 31: all pages gone", TWO.then(Edges.pages(0, 4, 4)).then(x -> x.takeOut(4)),
                BookIndex::meanPages, 0.0);
        is("promise 31: all 24 on all 300", ALL_HEADINGS.then(Edges.book(300)).then(x -> {
            for (int h = 0; h < 24; h++) {
                x.addPages(h, 1, 300);
            }
        }), BookIndex::meanPages, 300.0);
    }

    private static void digest() {
        // The first three sums are worked out apart from the class and from these tests.
        is("promise 32: without headings", NONE, BookIndex::digest, 1878161173114L);
        is("promise 32: one heading, wrapped around", Edges.headings(1), BookIndex::digest, 7703953525373841693L);
        is("promise 32: wrapped around to less than 0", Edges.headings(1).then(Edges.pages(0, 3, 7)),
                BookIndex::digest, -3476946446581786804L);
        is("promise 32: a book of one page", Edges.book(1), BookIndex::digest, Edges.checksum(1, 0, 1, 1, 0, 0));
        is("promise 32: one heading", Edges.headings(1), BookIndex::digest,
                Edges.checksum(100, 1, 100, 1, 0, 1, 0, 0, -1, 0, 0, 1, 0, -1));
        is("promise 32: a span's start and end", Edges.headings(1).then(Edges.pages(0, 3, 7)), BookIndex::digest,
                Edges.checksum(100, 1, 95, 3, 0, 1, 1, 5, -1, 0, 0, 1, 0, -1, 3, 7));
        is("promise 32: two headings that lead to each other",
                TWO.then(Edges.pages(0, 3, 7)).then(Edges.pages(0, 9, 9)).then(Edges.see(1, 0)).then(Edges.also(0, 1)),
                BookIndex::digest, Edges.checksum(100, 2, 94, 3, 0, 0, 2, 6, -1, 1, 0, 2, 1, -1, 3, 7, 9, 9,
                        0, 0, 0, 0, 0, 2, 1, -1));
        is("promise 32: a see that does not end", TWO.then(Edges.see(0, 1)).then(Edges.see(1, 0)), BookIndex::digest,
                Edges.checksum(100, 2, 100, 1, 2, 0, 0, 0, 1, 0, -1, 2, 1, -1, 0, 0, 0, 0, -1, 2, 1, -1));
        is("promise 32: nearest", TWO.then(Edges.pages(0, 3, 7)).then(Edges.pages(1, 7, 9)),
                BookIndex::digest, Edges.checksum(100, 2, 93, 7, 0, 2, 1, 5, -1, 0, 0, 1, 0, 1, 3, 7,
                        1, 3, -1, 0, 1, 1, 0, 0, 7, 9));
        is("promise 32: 8 spans", Edges.headings(1).then(Edges.eightSpans(0)), BookIndex::digest,
                Edges.checksum(100, 1, 84, 1, 0, 1, 8, 16, -1, 0, 0, 1, 0, -1,
                        1, 2, 11, 12, 21, 22, 31, 32, 41, 42, 51, 52, 61, 62, 71, 72));
    }

    public static void main(String[] args) {
        counts();
        startAndEnd();
        pagesAndSees();
        isOn();
        headingsOn();
        barePages();
        fullestPage();
        leadsTo();
        vainSees();
        steps();
        reachOf();
        isInRing();
        unled();
        spansWithGap();
        commonPages();
        nearest();
        spansTogether();
        meanPages();
        digest();
        Edges.close("AnswersEdgesTest");
    }
}
