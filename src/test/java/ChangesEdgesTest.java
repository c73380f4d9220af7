/** A test for each boundary case of the calls that change something, promises 2 to 8. */
public final class ChangesEdgesTest {

    private static final Edges.Script TWO = Edges.headings(2);
    private static final Edges.Script FULL_SPANS = TWO.then(Edges.eightSpans(0));
    private static final Edges.Script WITH_SEE = TWO.then(Edges.see(0, 1));
    private static final Edges.Script FOUR_ALSOS = Edges.headings(6).then(Edges.also(0, 1, 2, 3, 4));
    private static final int[] NO_PAGE_BEHIND_100 = {101, 102, Integer.MAX_VALUE};

    private ChangesEdgesTest() {
    }

    private static void addHeading() {
        Edges.edge("promise 2: the first", () -> Edges.answered(x -> { }, BookIndex::addHeading, 0));
        Edges.edge("promise 2: the second", () -> Edges.answered(Edges.headings(1), BookIndex::addHeading, 1));
        Edges.edge("promise 2: the 24th", () -> Edges.answered(Edges.headings(23), BookIndex::addHeading, 23));
        Edges.edge("promise 2: there are 24",
                () -> Edges.refused(Edges.headings(24), BookIndex::addHeading, Checks.STATE));
        Edges.edge("promise 2: there are 24, a second time", () -> {
            BookIndex x = Edges.headings(24).made();
            Checks.answerOf(x::addHeading);
            Checks.due("addHeading", Checks.answerOf(x::addHeading), Checks.STATE.getName());
            Checks.due("headings", x.headings(), 24);
        });
        Edges.edge("promise 2: a new one has nothing", () -> {
            BookIndex x = Edges.answered(FULL_SPANS.then(Edges.also(0, 1)), BookIndex::addHeading, 2);
            Edges.spansDue(x, 2, "");
            Checks.due("seeOf", x.seeOf(2), -1);
            Checks.due("seeAlsosOf", x.seeAlsosOf(2), 0);
        });
    }

    private static void addPagesArguments() {
        Edges.noSuchHeading("promise 3: no heading", TWO, (x, h) -> x.addPages(h, 1, 1));
        Edges.edge("promise 3: no heading at all",
                () -> Edges.refused(x -> { }, x -> x.addPages(0, 1, 1), Checks.INDEX));
        for (int from : Edges.LESS_THAN_1) {
            Edges.edge("promise 3: from is " + from,
                    () -> Edges.refused(TWO, x -> x.addPages(0, from, 5), Checks.ARGUMENT));
        }
        for (int to : NO_PAGE_BEHIND_100) {
            Edges.edge("promise 3: to is " + to,
                    () -> Edges.refused(TWO, x -> x.addPages(0, 99, to), Checks.ARGUMENT));
        }
        for (int to : new int[] {8, 1, 0, Integer.MIN_VALUE}) {
            Edges.edge("promise 3: from is 9, to is " + to,
                    () -> Edges.refused(TWO, x -> x.addPages(0, 9, to), Checks.ARGUMENT));
        }
        Edges.edge("promise 3: from is greatest, to is least",
                () -> Edges.refused(TWO, x -> x.addPages(0, Integer.MAX_VALUE, Integer.MIN_VALUE), Checks.ARGUMENT));
        Edges.edge("promise 3: from is least, to is greatest",
                () -> Edges.refused(TWO, x -> x.addPages(0, Integer.MIN_VALUE, Integer.MAX_VALUE), Checks.ARGUMENT));
        Edges.edge("promise 3: from is greatest, to is greatest",
                () -> Edges.refused(TWO, x -> x.addPages(0, Integer.MAX_VALUE, Integer.MAX_VALUE), Checks.ARGUMENT));
        Edges.edge("promise 3: to is from", () -> Edges.answered(TWO, x -> x.addPages(0, 9, 9), 1, 0, "9-9"));
        Edges.edge("promise 3: from is 1, to is the last page",
                () -> Edges.answered(TWO, x -> x.addPages(1, 1, 100), 1, 1, "1-100"));
        Edges.edge("promise 3: the only page",
                () -> Edges.answered(TWO.then(Edges.book(1)), x -> x.addPages(0, 1, 1), 1, 0, "1-1"));
        Edges.edge("promise 3: behind the only page",
                () -> Edges.refused(TWO.then(Edges.book(1)), x -> x.addPages(0, 1, 2), Checks.ARGUMENT));
        Edges.edge("promise 3: all of 300 pages",
                () -> Edges.answered(TWO.then(Edges.book(300)), x -> x.addPages(0, 1, 300), 1, 0, "1-300"));
        Edges.edge("promise 3: behind 300 pages",
                () -> Edges.refused(TWO.then(Edges.book(300)), x -> x.addPages(0, 300, 301), Checks.ARGUMENT));
    }

    private static void addPagesMerges() {
        Edges.Script spans = TWO.then(Edges.pages(0, 10, 12)).then(Edges.pages(0, 20, 22)).then(Edges.pages(0, 30, 32));
        Edges.edge("promise 3: the first pages", () -> Edges.answered(TWO, x -> x.addPages(0, 5, 6), 1, 0, "5-6"));
        addsTo(spans, "a page between, ahead of all", 7, 8, 4, "7-8 10-12 20-22 30-32");
        addsTo(spans, "no page between, ahead of all", 7, 9, 3, "7-12 20-22 30-32");
        addsTo(spans, "a page in common, ahead of all", 7, 10, 3, "7-12 20-22 30-32");
        addsTo(spans, "a page between, behind all", 34, 35, 4, "10-12 20-22 30-32 34-35");
        addsTo(spans, "no page between, behind all", 33, 35, 3, "10-12 20-22 30-35");
        addsTo(spans, "a page in common, behind all", 32, 35, 3, "10-12 20-22 30-35");
        addsTo(spans, "a page between, on both sides", 14, 18, 4, "10-12 14-18 20-22 30-32");
        addsTo(spans, "no page between on the one side", 13, 18, 3, "10-18 20-22 30-32");
        addsTo(spans, "no page between on the other side", 14, 19, 3, "10-12 14-22 30-32");
        addsTo(spans, "no page between on both sides", 13, 19, 2, "10-22 30-32");
        addsTo(spans, "a page in common on both sides", 12, 20, 2, "10-22 30-32");
        addsTo(spans, "the same pages", 20, 22, 3, "10-12 20-22 30-32");
        addsTo(spans, "a page that it has", 21, 21, 3, "10-12 20-22 30-32");
        addsTo(spans, "over one, a page more on each side", 19, 23, 3, "10-12 19-23 30-32");
        addsTo(spans, "over one, next to both others", 13, 29, 1, "10-32");
        addsTo(spans, "over all", 1, 100, 1, "1-100");
        addsTo(spans, "from the first of the first to the last of the last", 10, 32, 1, "10-32");
        Edges.edge("promise 3: another heading has them", () -> Edges.answered(spans, x -> x.addPages(1, 11, 11), 1,
                0, "10-12 20-22 30-32"));
    }

    private static void addsTo(Edges.Script before, String name, int from, int to, int spans, String want) {
        Edges.edge("promise 3: " + name, () -> Edges.answered(before, x -> x.addPages(0, from, to), spans, 0, want));
    }

    private static void addPagesStates() {
        Edges.edge("promise 3: it has a see", () -> Edges.refused(WITH_SEE, x -> x.addPages(0, 1, 1), Checks.STATE));
        Edges.edge("promise 3: the see is gone",
                () -> Edges.answered(WITH_SEE.then(Edges.see(0, -1)), x -> x.addPages(0, 1, 1), 1, 0, "1-1"));
        Edges.edge("promise 3: it is told by a see", () -> Edges.answered(WITH_SEE, x -> x.addPages(1, 1, 1), 1));
        Edges.edge("promise 3: it has see alsos", () -> Edges.answered(FOUR_ALSOS, x -> x.addPages(0, 1, 1), 1));
        Edges.Script seven = FULL_SPANS.then(x -> x.takePages(0, 71, 72));
        Edges.edge("promise 3: an eighth span", () -> Edges.answered(seven, x -> x.addPages(0, 74, 75), 8));
        ninth("behind all", 74, 74);
        ninth("behind all, to the last page", 100, 100);
        ninth("between two, a page on both sides", 4, 9);
        ninth("between the last two", 69, 69);
        Edges.edge("promise 3: a ninth span ahead of all", () -> Edges.refused(FULL_SPANS.then(x -> x.putIn(1, 2)),
                x -> x.addPages(0, 1, 1), Checks.STATE));
        eight("next to the one ahead", 3, 9, 8, "1-9 11-12 21-22 31-32 41-42 51-52 61-62 71-72");
        eight("next to the one behind", 4, 10, 8, "1-2 4-12 21-22 31-32 41-42 51-52 61-62 71-72");
        eight("next to both", 3, 10, 7, "1-12 21-22 31-32 41-42 51-52 61-62 71-72");
        eight("that it has", 71, 72, 8, "1-2 11-12 21-22 31-32 41-42 51-52 61-62 71-72");
        eight("over one and a page more on each side", 70, 73, 8, "1-2 11-12 21-22 31-32 41-42 51-52 61-62 70-73");
        eight("over all but the first", 4, 100, 2, "1-2 4-100");
        eight("over all", 1, 100, 1, "1-100");
    }

    private static void ninth(String name, int from, int to) {
        Edges.edge("promise 3: a ninth span " + name,
                () -> Edges.refused(FULL_SPANS, x -> x.addPages(0, from, to), Checks.STATE));
    }

    private static void eight(String name, int from, int to, int spans, String want) {
        Edges.edge("promise 3: to 8 spans, pages " + name,
                () -> Edges.answered(FULL_SPANS, x -> x.addPages(0, from, to), spans, 0, want));
    }

    private static void addPagesOrder() {
        Edges.edge("promise 3: no heading, and no pages",
                () -> Edges.refused(FULL_SPANS, x -> x.addPages(2, 0, 0), Checks.INDEX));
        Edges.edge("promise 3: no pages, and a see",
                () -> Edges.refused(WITH_SEE, x -> x.addPages(0, 0, 1), Checks.ARGUMENT));
        Edges.edge("promise 3: to is less than from, and a see",
                () -> Edges.refused(WITH_SEE, x -> x.addPages(0, 2, 1), Checks.ARGUMENT));
        Edges.edge("promise 3: no pages, and a ninth span",
                () -> Edges.refused(FULL_SPANS, x -> x.addPages(0, 99, 101), Checks.ARGUMENT));
    }

    private static void takePagesArguments() {
        Edges.noSuchHeading("promise 4: no heading", FULL_SPANS, (x, h) -> x.takePages(h, 1, 1));
        Edges.edge("promise 4: no heading at all",
                () -> Edges.refused(x -> { }, x -> x.takePages(0, 1, 1), Checks.INDEX));
        for (int from : Edges.LESS_THAN_1) {
            Edges.edge("promise 4: from is " + from,
                    () -> Edges.refused(FULL_SPANS, x -> x.takePages(0, from, 1), Checks.ARGUMENT));
        }
        for (int to : NO_PAGE_BEHIND_100) {
            Edges.edge("promise 4: to is " + to,
                    () -> Edges.refused(FULL_SPANS, x -> x.takePages(0, 72, to), Checks.ARGUMENT));
        }
        for (int to : new int[] {11, 1, 0, Integer.MIN_VALUE}) {
            Edges.edge("promise 4: from is 12, to is " + to,
                    () -> Edges.refused(FULL_SPANS, x -> x.takePages(0, 12, to), Checks.ARGUMENT));
        }
        Edges.edge("promise 4: from is least, to is greatest", () -> Edges.refused(FULL_SPANS,
                x -> x.takePages(0, Integer.MIN_VALUE, Integer.MAX_VALUE), Checks.ARGUMENT));
        Edges.edge("promise 4: from is greatest, to is greatest", () -> Edges.refused(FULL_SPANS,
                x -> x.takePages(0, Integer.MAX_VALUE, Integer.MAX_VALUE), Checks.ARGUMENT));
        Edges.Script all = TWO.then(Edges.pages(0, 1, 100));
        Edges.edge("promise 4: to is from",
                () -> Edges.answered(all, x -> x.takePages(0, 50, 50), 1, 0, "1-49 51-100"));
        Edges.edge("promise 4: from is 1, to is the last page",
                () -> Edges.answered(all, x -> x.takePages(0, 1, 100), 100, 0, ""));
        Edges.edge("promise 4: page 1", () -> Edges.answered(all, x -> x.takePages(0, 1, 1), 1, 0, "2-100"));
        Edges.edge("promise 4: the last page", () -> Edges.answered(all, x -> x.takePages(0, 100, 100), 1, 0, "1-99"));
        Edges.edge("promise 4: all of 300 pages",
                () -> Edges.answered(TWO.then(Edges.book(300)).then(Edges.pages(0, 1, 300)),
                        x -> x.takePages(0, 1, 300), 300, 0, ""));
        Edges.edge("promise 4: the only page",
                () -> Edges.answered(TWO.then(Edges.book(1)).then(Edges.pages(0, 1, 1)),
                        x -> x.takePages(0, 1, 1), 1, 0, ""));
        Edges.edge("promise 4: behind the only page",
                () -> Edges.refused(TWO.then(Edges.book(1)), x -> x.takePages(0, 1, 2), Checks.ARGUMENT));
    }

    private static void takePagesFromSpans() {
        Edges.Script spans = TWO.then(Edges.pages(0, 10, 14)).then(Edges.pages(0, 20, 20)).then(Edges.pages(0, 30, 34));
        Edges.edge("promise 4: of a heading without pages",
                () -> Edges.unchanged(TWO, x -> x.takePages(0, 1, 100), 0));
        Edges.edge("promise 4: of a heading with a see",
                () -> Edges.unchanged(WITH_SEE, x -> x.takePages(0, 1, 100), 0));
        takesNone(spans, "ahead of all", 1, 9);
        takesNone(spans, "behind all", 35, 100);
        takesNone(spans, "between two", 15, 19);
        takesFrom(spans, "the first page of a span", 10, 10, 1, "11-14 20-20 30-34");
        takesFrom(spans, "the last page of a span", 14, 14, 1, "10-13 20-20 30-34");
        takesFrom(spans, "the second page of a span", 11, 11, 1, "10-10 12-14 20-20 30-34");
        takesFrom(spans, "the last page but one", 13, 13, 1, "10-12 14-14 20-20 30-34");
        takesFrom(spans, "all but the ends", 11, 13, 3, "10-10 14-14 20-20 30-34");
        takesFrom(spans, "all but the first", 11, 14, 4, "10-10 20-20 30-34");
        takesFrom(spans, "all but the last", 10, 13, 4, "14-14 20-20 30-34");
        takesFrom(spans, "a whole span", 10, 14, 5, "20-20 30-34");
        takesFrom(spans, "a whole span and the pages around", 9, 15, 5, "20-20 30-34");
        takesFrom(spans, "a span of one page", 20, 20, 1, "10-14 30-34");
        takesFrom(spans, "from the last of one to the first of another", 14, 30, 3, "10-13 31-34");
        takesFrom(spans, "from behind one to ahead of another", 15, 29, 1, "10-14 30-34");
        takesFrom(spans, "from within one to within another", 12, 32, 7, "10-11 33-34");
        takesFrom(spans, "from the first of all to the last of all", 10, 34, 11, "");
        Edges.edge("promise 4: of one heading alone", () -> Edges.answered(spans.then(Edges.pages(1, 10, 14)),
                x -> x.takePages(1, 10, 14), 5, 0, "10-14 20-20 30-34"));
    }

    private static void takesNone(Edges.Script before, String name, int from, int to) {
        Edges.edge("promise 4: " + name, () -> Edges.unchanged(before, x -> x.takePages(0, from, to), 0));
    }

    private static void takesFrom(Edges.Script before, String name, int from, int to, int fewer, String want) {
        Edges.edge("promise 4: " + name, () -> Edges.answered(before, x -> x.takePages(0, from, to), fewer, 0, want));
    }

    private static void takePagesStates() {
        Edges.Script wide = FULL_SPANS.then(Edges.pages(0, 1, 3)).then(Edges.pages(0, 71, 75));
        Edges.edge("promise 4: a ninth span out of the first",
                () -> Edges.refused(wide, x -> x.takePages(0, 2, 2), Checks.STATE));
        Edges.edge("promise 4: a ninth span out of the last",
                () -> Edges.refused(wide, x -> x.takePages(0, 72, 74), Checks.STATE));
        Edges.edge("promise 4: 8 spans, the first page of one",
                () -> Edges.answered(wide, x -> x.takePages(0, 71, 71), 1, 0,
                        "1-3 11-12 21-22 31-32 41-42 51-52 61-62 72-75"));
        Edges.edge("promise 4: 8 spans, the last page of one",
                () -> Edges.answered(wide, x -> x.takePages(0, 75, 75), 1, 0,
                        "1-3 11-12 21-22 31-32 41-42 51-52 61-62 71-74"));
        Edges.edge("promise 4: 8 spans, from one to the next",
                () -> Edges.answered(wide, x -> x.takePages(0, 3, 11), 2, 0,
                        "1-2 12-12 21-22 31-32 41-42 51-52 61-62 71-75"));
        Edges.edge("promise 4: 8 spans, all", () -> Edges.answered(wide, x -> x.takePages(0, 1, 100), 20, 0, ""));
        Edges.edge("promise 4: 7 spans, and an eighth by it",
                () -> Edges.answered(wide.then(x -> x.takePages(0, 11, 12)), x -> x.takePages(0, 73, 73), 1, 0,
                        "1-3 21-22 31-32 41-42 51-52 61-62 71-72 74-75"));
        Edges.edge("promise 4: no heading, and no pages",
                () -> Edges.refused(wide, x -> x.takePages(2, 0, 0), Checks.INDEX));
        Edges.edge("promise 4: no pages, of a heading with a see",
                () -> Edges.refused(WITH_SEE, x -> x.takePages(0, 0, 1), Checks.ARGUMENT));
        Edges.edge("promise 4: to is less than from, within a span of 8",
                () -> Edges.refused(wide, x -> x.takePages(0, 73, 72), Checks.ARGUMENT));
        Edges.edge("promise 4: no pages, with 8 spans",
                () -> Edges.refused(wide, x -> x.takePages(0, 73, 101), Checks.ARGUMENT));
    }

    private static void setSee() {
        Edges.Script three = Edges.headings(3).then(Edges.pages(2, 5, 5));
        Edges.noSuchHeading("promise 5: no heading", three, (x, h) -> x.setSee(h, 0));
        Edges.noSuchHeading("promise 5: no heading, no see", three, (x, h) -> x.setSee(h, -1));
        Edges.edge("promise 5: no heading at all", () -> Edges.refused(x -> { }, x -> x.setSee(0, -1), Checks.INDEX));
        for (int other : new int[] {-2, Integer.MIN_VALUE, 3, 24, 32, Integer.MAX_VALUE}) {
            Edges.edge("promise 5: other is " + other,
                    () -> Edges.refused(three, x -> x.setSee(0, other), Checks.INDEX));
        }
        Edges.edge("promise 5: both are the same", () -> Edges.refused(three, x -> x.setSee(1, 1), Checks.ARGUMENT));
        Edges.edge("promise 5: it has pages", () -> Edges.refused(three, x -> x.setSee(2, 1), Checks.STATE));
        Edges.edge("promise 5: it has pages, other is -1", () -> Edges.unchanged(three, x -> x.setSee(2, -1), -1));
        Edges.edge("promise 5: it has no see, other is -1", () -> Edges.unchanged(three, x -> x.setSee(0, -1), -1));
        Edges.edge("promise 5: its pages are taken",
                () -> Edges.answered(three.then(x -> x.takePages(2, 5, 5)), x -> x.setSee(2, 0), -1));
        Edges.edge("promise 5: its pages are taken out of the book",
                () -> Edges.answered(three.then(x -> x.takeOut(5)), x -> x.setSee(2, 0), -1));
        Edges.edge("promise 5: other has pages", () -> Edges.answered(three, x -> x.setSee(0, 2), -1));
        Edges.Script see = three.then(Edges.see(1, 0));
        sees("in the place of the one before", see, 1, 2, 0);
        sees("the same again", see, 1, 0, 0);
        sees("away", see, 1, -1, 0);
        sees("heading 0 tells another", three, 0, 1, -1);
        sees("other has a see", see, 0, 1, -1);
        sees("it has a see also to the same", three.then(Edges.also(0, 1)), 0, 1, -1);
        sees("the last of 24", Edges.headings(24), 0, 23, -1);
        sees("for the last of 24", Edges.headings(24), 23, 0, -1);
    }

    private static void sees(String name, Edges.Script before, int heading, int other, int want) {
        Edges.edge("promise 5: " + name, () -> {
            BookIndex x = Edges.answered(before, y -> y.setSee(heading, other), want);
            Checks.due("seeOf", x.seeOf(heading), other);
        });
    }

    private static void setSeeOrder() {
        Edges.Script pages = TWO.then(Edges.pages(0, 5, 5));
        Edges.edge("promise 5: no heading, and both are the same",
                () -> Edges.refused(pages, x -> x.setSee(2, 2), Checks.INDEX));
        Edges.edge("promise 5: both are -1", () -> Edges.refused(pages, x -> x.setSee(-1, -1), Checks.INDEX));
        Edges.edge("promise 5: other is no heading, and it has pages",
                () -> Edges.refused(pages, x -> x.setSee(0, 2), Checks.INDEX));
        Edges.edge("promise 5: other is -2, and it has pages",
                () -> Edges.refused(pages, x -> x.setSee(0, -2), Checks.INDEX));
        Edges.edge("promise 5: both are the same, and it has pages",
                () -> Edges.refused(pages, x -> x.setSee(0, 0), Checks.ARGUMENT));
    }

    private static void turnSeeAlso() {
        Edges.noSuchHeading("promise 6: no heading", FOUR_ALSOS, (x, h) -> x.turnSeeAlso(h, 0));
        Edges.noSuchHeading("promise 6: other is", FOUR_ALSOS.then(Edges.also(0, 4)), (x, h) -> x.turnSeeAlso(0, h));
        Edges.edge("promise 6: no heading at all",
                () -> Edges.refused(x -> { }, x -> x.turnSeeAlso(0, 1), Checks.INDEX));
        Edges.edge("promise 6: both are the same",
                () -> Edges.refused(FOUR_ALSOS, x -> x.turnSeeAlso(1, 1), Checks.ARGUMENT));
        turns("the first", TWO, 0, 1, 1);
        turns("the only one away", TWO.then(Edges.also(0, 1)), 0, 1, 0);
        turns("given again", TWO.then(Edges.also(0, 1, 1)), 0, 1, 1);
        turns("the fourth", Edges.headings(5).then(Edges.also(0, 1, 2, 3)), 0, 4, 4);
        turns("the first of 4 away", FOUR_ALSOS, 0, 1, 3);
        turns("the last of 4 away", FOUR_ALSOS, 0, 4, 3);
        turns("another, one of 4 away", FOUR_ALSOS.then(Edges.also(0, 2)), 0, 5, 4);
        turns("of another one", FOUR_ALSOS, 5, 0, 1);
        turns("the last of 24", Edges.headings(24), 0, 23, 1);
        turns("for the last of 24", Edges.headings(24), 23, 0, 1);
        turns("told by its see too", WITH_SEE, 0, 1, 1);
        turns("with pages", TWO.then(Edges.pages(0, 1, 1)), 0, 1, 1);
        Edges.edge("promise 6: it has 4 others",
                () -> Edges.refused(FOUR_ALSOS, x -> x.turnSeeAlso(0, 5), Checks.STATE));
        Edges.edge("promise 6: it has 4 others, and a see to this one",
                () -> Edges.refused(FOUR_ALSOS.then(Edges.see(0, 5)), x -> x.turnSeeAlso(0, 5), Checks.STATE));
        Edges.edge("promise 6: no heading, and both are the same",
                () -> Edges.refused(FOUR_ALSOS, x -> x.turnSeeAlso(6, 6), Checks.INDEX));
        Edges.edge("promise 6: both are -1", () -> Edges.refused(FOUR_ALSOS, x -> x.turnSeeAlso(-1, -1), Checks.INDEX));
        Edges.edge("promise 6: other is no heading, and it has 4 others",
                () -> Edges.refused(FOUR_ALSOS, x -> x.turnSeeAlso(0, 6), Checks.INDEX));
        Edges.edge("promise 6: other is -1, and it has 4 others",
                () -> Edges.refused(FOUR_ALSOS, x -> x.turnSeeAlso(0, -1), Checks.INDEX));
        Edges.edge("promise 6: both are the same, and it has 4 others",
                () -> Edges.refused(FOUR_ALSOS, x -> x.turnSeeAlso(0, 0), Checks.ARGUMENT));
    }

    private static void turns(String name, Edges.Script before, int heading, int other, int want) {
        Edges.edge("promise 6: " + name, () -> {
            BookIndex x = Edges.answered(before, y -> y.turnSeeAlso(heading, other), want);
            Checks.due("seeAlsosOf", x.seeAlsosOf(heading), want);
        });
    }

    private static void putInArguments() {
        Edges.Script spans = TWO.then(Edges.pages(0, 1, 1)).then(Edges.pages(0, 100, 100));
        for (int page : Edges.LESS_THAN_1) {
            Edges.edge("promise 7: page is " + page,
                    () -> Edges.refused(spans, x -> x.putIn(page, 1), Checks.ARGUMENT));
        }
        for (int page : new int[] {102, 103, Integer.MAX_VALUE}) {
            Edges.edge("promise 7: page is " + page,
                    () -> Edges.refused(spans, x -> x.putIn(page, 1), Checks.ARGUMENT));
        }
        for (int many : Edges.LESS_THAN_1) {
            Edges.edge("promise 7: many is " + many,
                    () -> Edges.refused(spans, x -> x.putIn(1, many), Checks.ARGUMENT));
        }
        for (int many : new int[] {101, 102, Integer.MAX_VALUE}) {
            Edges.edge("promise 7: many is " + many,
                    () -> Edges.refused(spans, x -> x.putIn(1, many), Checks.ARGUMENT));
        }
        putsIn("ahead of page 1", spans, 1, 1, 101, "2-2 101-101");
        putsIn("ahead of the last page", spans, 100, 1, 101, "1-1 101-101");
        putsIn("at the end", spans, 101, 1, 101, "1-1 100-100");
        putsIn("1 page", spans, 50, 1, 101, "1-1 101-101");
        putsIn("100 pages", spans, 50, 100, 200, "1-1 200-200");
        putsIn("at the end of a book of 1 page", spans.then(Edges.book(1)), 2, 1, 2, "1-1");
        putsIn("ahead of the only page", spans.then(Edges.book(1)), 1, 1, 2, "2-2");
        Edges.edge("promise 7: behind the end of a book of 1 page",
                () -> Edges.refused(TWO.then(Edges.book(1)), x -> x.putIn(3, 1), Checks.ARGUMENT));
        Edges.edge("promise 7: the end goes along", () -> Edges.answered(spans.then(Edges.book(150)),
                x -> x.putIn(151, 1), 151));
        Edges.edge("promise 7: behind an end that went along",
                () -> Edges.refused(spans.then(Edges.book(150)), x -> x.putIn(152, 1), Checks.ARGUMENT));
        Edges.edge("promise 7: behind an end that came ahead",
                () -> Edges.refused(spans.then(Edges.book(99)), x -> x.putIn(101, 1), Checks.ARGUMENT));
    }

    private static void putsIn(String name, Edges.Script before, int page, int many, int pages, String want) {
        Edges.edge("promise 7: " + name, () -> {
            BookIndex x = Edges.answered(before, y -> y.putIn(page, many), pages);
            Checks.due("bookPages", x.bookPages(), pages);
            Edges.spansDue(x, 0, want);
        });
    }

    private static void putInStates() {
        Edges.Script all = TWO.then(Edges.pages(0, 1, 100));
        putsIn("300 pages then", all.then(Edges.book(200)), 201, 100, 300, "1-100");
        putsIn("300 pages then, by 1", all.then(Edges.book(299)), 1, 1, 300, "2-101");
        Edges.edge("promise 7: 301 pages", () -> Edges.refused(all.then(Edges.book(201)), x -> x.putIn(1, 100),
                Checks.STATE));
        Edges.edge("promise 7: 301 pages, by 1", () -> Edges.refused(all.then(Edges.book(300)), x -> x.putIn(301, 1),
                Checks.STATE));
        Edges.edge("promise 7: 400 pages", () -> Edges.refused(all.then(Edges.book(300)), x -> x.putIn(1, 100),
                Checks.STATE));
        Edges.edge("promise 7: page is 0, and 301 pages",
                () -> Edges.refused(all.then(Edges.book(300)), x -> x.putIn(0, 1), Checks.ARGUMENT));
        Edges.edge("promise 7: page is 302, and 301 pages",
                () -> Edges.refused(all.then(Edges.book(300)), x -> x.putIn(302, 1), Checks.ARGUMENT));
        Edges.edge("promise 7: many is 101, and 301 pages",
                () -> Edges.refused(all.then(Edges.book(200)), x -> x.putIn(1, 101), Checks.ARGUMENT));
        Edges.edge("promise 7: many is greatest, and too many pages",
                () -> Edges.refused(all.then(Edges.book(300)), x -> x.putIn(1, Integer.MAX_VALUE), Checks.ARGUMENT));
    }

    private static void putInMovesSpans() {
        Edges.Script spans = TWO.then(Edges.pages(0, 10, 13)).then(Edges.pages(0, 15, 15)).then(Edges.pages(1, 1, 100));
        putsIn("ahead of the page ahead of a span", spans, 9, 2, 102, "12-15 17-17");
        putsIn("ahead of the first page of a span", spans, 10, 2, 102, "12-15 17-17");
        putsIn("ahead of the second page of a span", spans, 11, 2, 102, "10-15 17-17");
        putsIn("ahead of the last page of a span", spans, 13, 2, 102, "10-15 17-17");
        putsIn("behind the last page of a span", spans, 14, 2, 102, "10-13 17-17");
        putsIn("ahead of a span of one page", spans, 15, 2, 102, "10-13 17-17");
        putsIn("behind a span of one page", spans, 16, 2, 102, "10-13 15-15");
        Edges.edge("promise 7: ahead of a span over all",
                () -> Edges.answered(spans, x -> x.putIn(1, 5), 105, 1, "6-105"));
        Edges.edge("promise 7: in a span over all", () -> Edges.answered(spans, x -> x.putIn(2, 5), 105, 1, "1-105"));
        Edges.edge("promise 7: ahead of the last page of a span over all",
                () -> Edges.answered(spans, x -> x.putIn(100, 5), 105, 1, "1-105"));
        Edges.edge("promise 7: behind a span over all",
                () -> Edges.answered(spans, x -> x.putIn(101, 5), 105, 1, "1-100"));
        Edges.edge("promise 7: with 8 spans", () -> Edges.answered(FULL_SPANS, x -> x.putIn(12, 3), 103, 0,
                "1-2 11-15 24-25 34-35 44-45 54-55 64-65 74-75"));
        Edges.edge("promise 7: the last of 24 headings",
                () -> Edges.answered(Edges.headings(24).then(Edges.pages(23, 4, 5)), x -> x.putIn(5, 1),
                        101, 23, "4-6"));
        Edges.edge("promise 7: without headings", () -> Edges.answered(x -> { }, x -> x.putIn(1, 100), 200));
    }

    private static void takeOutArguments() {
        Edges.Script spans = TWO.then(Edges.pages(0, 1, 2)).then(Edges.pages(0, 100, 100));
        for (int page : Edges.LESS_THAN_1) {
            Edges.edge("promise 8: page is " + page, () -> Edges.refused(spans, x -> x.takeOut(page), Checks.ARGUMENT));
        }
        for (int page : NO_PAGE_BEHIND_100) {
            Edges.edge("promise 8: page is " + page, () -> Edges.refused(spans, x -> x.takeOut(page), Checks.ARGUMENT));
        }
        takesOut("page 1", spans, 1, 1, 99, "1-1 99-99");
        takesOut("the last page", spans, 100, 1, 99, "1-2");
        takesOut("a page that no heading is on", spans, 50, 0, 99, "1-2 99-99");
        takesOut("the first of two pages", spans.then(Edges.book(2)), 1, 1, 1, "1-1");
        takesOut("the last of two pages", spans.then(Edges.book(2)), 2, 1, 1, "1-1");
        takesOut("the last of 300 pages", spans.then(Edges.book(300)).then(Edges.pages(0, 299, 300)), 300, 1, 299,
                "1-2 100-100 299-299");
        Edges.edge("promise 8: the book has one page",
                () -> Edges.refused(spans.then(Edges.book(1)), x -> x.takeOut(1), Checks.STATE));
        Edges.edge("promise 8: the book has one page, and page is 0",
                () -> Edges.refused(spans.then(Edges.book(1)), x -> x.takeOut(0), Checks.ARGUMENT));
        Edges.edge("promise 8: the book has one page, and page is 2",
                () -> Edges.refused(spans.then(Edges.book(1)), x -> x.takeOut(2), Checks.ARGUMENT));
        Edges.edge("promise 8: behind a shorter book",
                () -> Edges.refused(spans.then(Edges.book(60)), x -> x.takeOut(61), Checks.ARGUMENT));
        Edges.edge("promise 8: without headings", () -> Edges.answered(x -> { }, x -> x.takeOut(1), 0));
    }

    private static void takesOut(String name, Edges.Script before, int page, int on, int pages, String want) {
        Edges.edge("promise 8: " + name, () -> {
            BookIndex x = Edges.answered(before, y -> y.takeOut(page), on);
            Checks.due("bookPages", x.bookPages(), pages);
            Edges.spansDue(x, 0, want);
        });
    }

    private static void takeOutOfSpans() {
        Edges.Script spans = TWO.then(Edges.pages(0, 10, 13)).then(Edges.pages(0, 15, 15)).then(Edges.pages(0, 18, 19));
        takesOut("the page ahead of a span", spans, 9, 0, 99, "9-12 14-14 17-18");
        takesOut("the first page of a span", spans, 10, 1, 99, "10-12 14-14 17-18");
        takesOut("the second page of a span", spans, 11, 1, 99, "10-12 14-14 17-18");
        takesOut("the last page of a span", spans, 13, 1, 99, "10-12 14-14 17-18");
        takesOut("the only page between two spans", spans, 14, 0, 99, "10-14 17-18");
        takesOut("the only page of a span", spans, 15, 1, 99, "10-13 17-18");
        takesOut("the first of two pages between two spans", spans, 16, 0, 99, "10-13 15-15 17-18");
        takesOut("the last of two pages between two spans", spans, 17, 0, 99, "10-13 15-15 17-18");
        takesOut("the page behind all spans", spans, 20, 0, 99, "10-13 15-15 18-19");
        takesOut("both pages between two spans", spans.then(x -> x.takeOut(16)), 16, 0, 98, "10-13 15-17");
        takesOut("the only page of the only span", TWO.then(Edges.pages(0, 7, 7)), 7, 1, 99, "");
        takesOut("with 8 spans, that touch then",
                TWO.then(x -> {
                    for (int page = 1; page <= 15; page += 2) {
                        x.addPages(0, page, page);
                    }
                }), 2, 0, 99, "1-2 4-4 6-6 8-8 10-10 12-12 14-14");
        takesOut("one of 8 spans", FULL_SPANS.then(x -> x.takePages(0, 72, 72)), 71, 1, 99,
                "1-2 11-12 21-22 31-32 41-42 51-52 61-62");
        Edges.Script all = x -> {
            for (int h = 0; h < 24; h++) {
                x.addPages(h, 50, 50 + h);
            }
        };
        takesOut("a page that all 24 headings are on", Edges.headings(24).then(all), 50, 24, 99, "");
        takesOut("a page that one of 24 is on", Edges.headings(24).then(all), 73, 1, 99, "50-50");
        Edges.edge("promise 8: each heading loses the page", () -> Edges.answered(Edges.headings(24).then(all),
                x -> x.takeOut(51), 23, 23, "50-72"));
        Edges.edge("promise 8: sees stay", () -> Edges.answered(WITH_SEE.then(x -> x.takeOut(1)), x -> x.seeOf(0), 1));
    }

    public static void main(String[] args) {
        addHeading();
        addPagesArguments();
        addPagesMerges();
        addPagesStates();
        addPagesOrder();
        takePagesArguments();
        takePagesFromSpans();
        takePagesStates();
        setSee();
        setSeeOrder();
        turnSeeAlso();
        putInArguments();
        putInStates();
        putInMovesSpans();
        takeOutArguments();
        takeOutOfSpans();
        Edges.close("ChangesEdgesTest");
    }
}
