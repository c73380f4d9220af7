/** Tests each promise of the document: ordinary calls, the edges that it names, and wrong ones. */
public final class PromisesTest {

    private static final int[] WRONG_NUMBERS = {-1, -2, 24, 32, 100, Integer.MAX_VALUE, Integer.MIN_VALUE};

    private PromisesTest() {
    }

    private interface OfHeading {
        Object answer(int heading);
    }

    /** No heading of the index has one of the wrong numbers, nor the number behind the last one. */
    private static void dueNoSuchHeading(BookIndex x, String call, OfHeading asked) {
        for (int wrong : WRONG_NUMBERS) {
            Checks.dueThrow(x, call + " of " + wrong, Checks.INDEX, () -> asked.answer(wrong));
        }
        int behind = x.headings();
        Checks.dueThrow(x, call + " of " + behind, Checks.INDEX, () -> asked.answer(behind));
    }

    private static void spansDue(BookIndex x, int heading, String want) {
        Checks.due("the spans of " + heading, Checks.spansOf(x, heading), want);
    }

    /** An index whose heading 0 has 8 spans: 1-2, 11-12 .. 71-72. */
    private static BookIndex withEightSpans(int headings) {
        BookIndex x = Checks.withHeadings(headings);
        for (int i = 0; i < 8; i++) {
            x.addPages(0, 10 * i + 1, 10 * i + 2);
        }
        return x;
    }

    private static void newObject() {
        BookIndex x = new BookIndex();
        Checks.due("bookPages", x.bookPages(), 100);
        Checks.due("headings", x.headings(), 0);
        Checks.due("barePages", x.barePages(), 100);
        x.addHeading();
        x.putIn(1, 5);
        BookIndex y = new BookIndex();
        Checks.due("headings of another object", y.headings(), 0);
        Checks.due("bookPages of another object", y.bookPages(), 100);
    }

    private static void addHeading() {
        BookIndex x = new BookIndex();
        for (int i = 0; i < 24; i++) {
            Checks.due("addHeading", x.addHeading(), i);
            Checks.due("headings", x.headings(), i + 1);
            spansDue(x, i, "");
            Checks.due("seeOf a new one", x.seeOf(i), -1);
            Checks.due("seeAlsosOf a new one", x.seeAlsosOf(i), 0);
        }
        Checks.dueThrow(x, "addHeading with 24", Checks.STATE, x::addHeading);
    }

    private static void addPages() {
        BookIndex x = Checks.withHeadings(3);
        Checks.due("one span", x.addPages(0, 10, 20), 1);
        Checks.due("behind, a page between", x.addPages(0, 22, 22), 2);
        Checks.due("ahead, a page between", x.addPages(0, 5, 8), 3);
        spansDue(x, 0, "5-8 10-20 22-22");
        Checks.due("no page between, on both sides", x.addPages(0, 21, 21), 2);
        spansDue(x, 0, "5-8 10-22");
        Checks.due("within", x.addPages(0, 12, 14), 2);
        Checks.due("the same", x.addPages(0, 5, 8), 2);
        Checks.due("touches ahead", x.addPages(0, 3, 4), 2);
        spansDue(x, 0, "3-8 10-22");
        Checks.due("a page in common at both ends", x.addPages(0, 8, 10), 1);
        spansDue(x, 0, "3-22");
        Checks.due("around", x.addPages(0, 1, 100), 1);
        spansDue(x, 0, "1-100");
        spansDue(x, 1, "");

        BookIndex y = withEightSpans(2);
        Checks.dueThrow(y, "a ninth span ahead of none", Checks.STATE, () -> y.addPages(0, 100, 100));
        Checks.dueThrow(y, "a ninth span between", Checks.STATE, () -> y.addPages(0, 4, 9));
        Checks.due("eight still", y.addPages(0, 3, 9), 8);
        Checks.due("one less", y.addPages(0, 10, 10), 7);
        Checks.due("eight again", y.addPages(0, 100, 100), 8);
        Checks.due("over three", y.addPages(0, 12, 41), 5);
        spansDue(y, 0, "1-42 51-52 61-62 71-72 100-100");
    }

    private static void addPagesThrows() {
        BookIndex x = withEightSpans(3);
        x.setSee(1, 2);
        dueNoSuchHeading(x, "addPages", h -> x.addPages(h, 0, 0));
        for (int heading = 0; heading < 2; heading++) {
            int h = heading;
            Checks.dueThrow(x, "from 0", Checks.ARGUMENT, () -> x.addPages(h, 0, 100));
            Checks.dueThrow(x, "from least", Checks.ARGUMENT, () -> x.addPages(h, Integer.MIN_VALUE, 100));
            Checks.dueThrow(x, "to 101", Checks.ARGUMENT, () -> x.addPages(h, 99, 101));
            Checks.dueThrow(x, "to greatest", Checks.ARGUMENT, () -> x.addPages(h, 99, Integer.MAX_VALUE));
            Checks.dueThrow(x, "to less than from", Checks.ARGUMENT, () -> x.addPages(h, 90, 89));
        }
        Checks.dueThrow(x, "with a see", Checks.STATE, () -> x.addPages(1, 1, 1));
        x.setSee(1, -1);
        Checks.due("without the see", x.addPages(1, 1, 1), 1);
        x.turnSeeAlso(2, 1);
        Checks.due("with a see also", x.addPages(2, 100, 100), 1);
        x.takeOut(50);
        Checks.dueThrow(x, "behind a shorter book", Checks.ARGUMENT, () -> x.addPages(1, 100, 100));
        x.putIn(1, 2);
        Checks.due("in a longer book", x.addPages(1, 101, 101), 2);
    }

    private static void takePages() {
        BookIndex x = Checks.withHeadings(3);
        x.addPages(0, 10, 20);
        Checks.due("none of them", x.takePages(0, 1, 9) + x.takePages(0, 21, 100), 0);
        Checks.due("out of the middle", x.takePages(0, 13, 14), 2);
        spansDue(x, 0, "10-12 15-20");
        Checks.due("the same again", x.takePages(0, 13, 14), 0);
        Checks.due("from the first", x.takePages(0, 10, 10), 1);
        Checks.due("to the last", x.takePages(0, 20, 25), 1);
        spansDue(x, 0, "11-12 15-19");
        Checks.due("from one to the next", x.takePages(0, 12, 15), 2);
        spansDue(x, 0, "11-11 16-19");
        Checks.due("a whole span", x.takePages(0, 11, 11), 1);
        Checks.due("all", x.takePages(0, 1, 100), 4);
        spansDue(x, 0, "");
        Checks.due("of none", x.takePages(0, 1, 100), 0);
        x.setSee(1, 2);
        Checks.due("of a heading with a see", x.takePages(1, 1, 100), 0);

        BookIndex y = withEightSpans(2);
        y.addPages(0, 71, 73);
        Checks.dueThrow(y, "a ninth span", Checks.STATE, () -> y.takePages(0, 72, 72));
        Checks.due("eight still", y.takePages(0, 73, 75), 1);
        y.addPages(0, 11, 15);
        Checks.due("two fewer, one more", y.takePages(0, 12, 24), 6);
        spansDue(y, 0, "1-2 11-11 31-32 41-42 51-52 61-62 71-72");
    }

    private static void takePagesThrows() {
        BookIndex x = withEightSpans(2);
        x.addPages(0, 73, 79);
        dueNoSuchHeading(x, "takePages", h -> x.takePages(h, 0, 0));
        Checks.dueThrow(x, "from 0", Checks.ARGUMENT, () -> x.takePages(0, 0, 75));
        Checks.dueThrow(x, "to 101", Checks.ARGUMENT, () -> x.takePages(0, 75, 101));
        Checks.dueThrow(x, "to greatest", Checks.ARGUMENT, () -> x.takePages(0, 75, Integer.MAX_VALUE));
        Checks.dueThrow(x, "to less than from", Checks.ARGUMENT, () -> x.takePages(0, 76, 75));
    }

    private static void setSee() {
        BookIndex x = Checks.withHeadings(4);
        Checks.due("the first see", x.setSee(0, 1), -1);
        Checks.due("another", x.setSee(0, 2), 1);
        Checks.due("the same", x.setSee(0, 2), 2);
        Checks.due("seeOf", x.seeOf(0), 2);
        Checks.due("away", x.setSee(0, -1), 2);
        Checks.due("away again", x.setSee(0, -1), -1);
        x.addPages(3, 1, 1);
        Checks.due("to one with pages", x.setSee(0, 3), -1);
        Checks.due("none for one with pages", x.setSee(3, -1), -1);
        dueNoSuchHeading(x, "setSee", h -> x.setSee(h, h));
        dueNoSuchHeading(x, "setSee to none", h -> x.setSee(h, -1));
        for (int other : new int[] {-2, 4, 24, Integer.MAX_VALUE, Integer.MIN_VALUE}) {
            Checks.dueThrow(x, "other is " + other, Checks.INDEX, () -> x.setSee(3, other));
        }
        Checks.dueThrow(x, "both the same", Checks.ARGUMENT, () -> x.setSee(1, 1));
        Checks.dueThrow(x, "both the same, with pages", Checks.ARGUMENT, () -> x.setSee(3, 3));
        Checks.dueThrow(x, "with pages", Checks.STATE, () -> x.setSee(3, 0));
        x.takePages(3, 1, 1);
        Checks.due("the pages gone", x.setSee(3, 0), -1);
    }

    private static void turnSeeAlso() {
        BookIndex x = Checks.withHeadings(24);
        Checks.due("one", x.turnSeeAlso(0, 23), 1);
        Checks.due("away", x.turnSeeAlso(0, 23), 0);
        for (int i = 1; i <= 4; i++) {
            Checks.due("see also " + i, x.turnSeeAlso(0, i), i);
        }
        Checks.dueThrow(x, "a fifth", Checks.STATE, () -> x.turnSeeAlso(0, 5));
        Checks.dueThrow(x, "both the same, with 4", Checks.ARGUMENT, () -> x.turnSeeAlso(0, 0));
        Checks.due("one of the 4", x.turnSeeAlso(0, 4), 3);
        Checks.due("a fourth", x.turnSeeAlso(0, 5), 4);
        Checks.due("steps to it", x.steps(0, 5), 1);
        Checks.due("steps to the one taken away", x.steps(0, 4), -1);
        x.setSee(6, 0);
        Checks.due("with a see, the same", x.turnSeeAlso(6, 0), 1);
        x.addPages(7, 1, 1);
        Checks.due("with pages", x.turnSeeAlso(7, 6), 1);
        Checks.due("those of another", x.seeAlsosOf(1), 0);
        dueNoSuchHeading(x, "turnSeeAlso", h -> x.turnSeeAlso(h, 0));
        dueNoSuchHeading(x, "turnSeeAlso to it, with 4", h -> x.turnSeeAlso(0, h));
        dueNoSuchHeading(x, "turnSeeAlso to itself", h -> x.turnSeeAlso(h, h));
    }

    private static void putIn() {
        BookIndex x = Checks.withHeadings(2);
        x.addPages(0, 5, 8);
        x.addPages(0, 10, 10);
        x.addPages(1, 1, 100);
        Checks.due("ahead of all", x.putIn(1, 1), 101);
        spansDue(x, 0, "6-9 11-11");
        spansDue(x, 1, "2-101");
        Checks.due("ahead of a span", x.putIn(6, 2), 103);
        spansDue(x, 0, "8-11 13-13");
        spansDue(x, 1, "2-103");
        Checks.due("ahead of its second page", x.putIn(9, 1), 104);
        spansDue(x, 0, "8-12 14-14");
        Checks.due("ahead of its last page", x.putIn(12, 3), 107);
        spansDue(x, 0, "8-15 17-17");
        Checks.due("behind it", x.putIn(16, 4), 111);
        spansDue(x, 0, "8-15 21-21");
        Checks.due("ahead of a span of one", x.putIn(21, 1), 112);
        spansDue(x, 0, "8-15 22-22");
        Checks.due("behind a span of one", x.putIn(23, 1), 113);
        spansDue(x, 0, "8-15 22-22");
        spansDue(x, 1, "2-113");
        Checks.due("at the end", x.putIn(114, 100), 213);
        spansDue(x, 1, "2-113");
        Checks.due("up to 300", x.putIn(214, 87), 300);
        Checks.due("bookPages", x.bookPages(), 300);
    }

    private static void putInThrows() {
        BookIndex x = Checks.withHeadings(1);
        x.putIn(101, 100);
        x.addPages(0, 1, 200);
        for (int page : new int[] {0, -1, 202, Integer.MAX_VALUE, Integer.MIN_VALUE}) {
            Checks.dueThrow(x, "ahead of " + page, Checks.ARGUMENT, () -> x.putIn(page, 1));
        }
        for (int many : new int[] {0, -1, 101, Integer.MAX_VALUE, Integer.MIN_VALUE}) {
            Checks.dueThrow(x, many + " pages", Checks.ARGUMENT, () -> x.putIn(1, many));
        }
        x.putIn(201, 1);
        Checks.dueThrow(x, "301 pages", Checks.STATE, () -> x.putIn(1, 100));
        Checks.dueThrow(x, "101 pages, that are too many too", Checks.ARGUMENT, () -> x.putIn(1, 101));
        Checks.due("300 pages", x.putIn(1, 99), 300);
        Checks.dueThrow(x, "one more", Checks.STATE, () -> x.putIn(301, 1));
        Checks.dueThrow(x, "ahead of 302", Checks.ARGUMENT, () -> x.putIn(302, 1));
    }

    private static void takeOut() {
        BookIndex x = Checks.withHeadings(4);
        x.addPages(0, 5, 8);
        x.addPages(0, 10, 10);
        x.addPages(0, 12, 20);
        x.addPages(1, 1, 100);
        Checks.due("behind all", x.takeOut(100), 1);
        spansDue(x, 0, "5-8 10-10 12-20");
        spansDue(x, 1, "1-99");
        Checks.due("ahead of all", x.takeOut(1), 1);
        spansDue(x, 0, "4-7 9-9 11-19");
        Checks.due("the first of a span", x.takeOut(4), 2);
        spansDue(x, 0, "4-6 8-8 10-18");
        Checks.due("the last of a span", x.takeOut(18), 2);
        spansDue(x, 0, "4-6 8-8 10-17");
        Checks.due("a span of one, the others a page apart", x.takeOut(8), 2);
        spansDue(x, 0, "4-6 9-16");
        Checks.due("a page between spans", x.takeOut(7), 1);
        spansDue(x, 0, "4-6 8-15");
        Checks.due("the last page between spans", x.takeOut(7), 1);
        spansDue(x, 0, "4-14");
        Checks.due("the only page of a heading", x.addPages(2, 30, 30), 1);
        Checks.due("its page out", x.takeOut(30), 2);
        spansDue(x, 2, "");
        Checks.due("the see of it", x.setSee(2, 0), -1);
        Checks.due("bookPages", x.bookPages(), 92);
    }

    private static void takeOutThrows() {
        BookIndex x = Checks.withHeadings(1);
        for (int page : new int[] {0, -1, 101, Integer.MAX_VALUE, Integer.MIN_VALUE}) {
            Checks.dueThrow(x, "page " + page, Checks.ARGUMENT, () -> x.takeOut(page));
        }
        for (int i = 0; i < 99; i++) {
            x.takeOut(1);
        }
        x.addPages(0, 1, 1);
        Checks.due("bookPages", x.bookPages(), 1);
        Checks.dueThrow(x, "the only page", Checks.STATE, () -> x.takeOut(1));
        Checks.dueThrow(x, "no page, and one left", Checks.ARGUMENT, () -> x.takeOut(2));
        Checks.due("two pages", x.putIn(1, 1), 2);
        Checks.due("one again", x.takeOut(1), 0);
        spansDue(x, 0, "1-1");
    }

    private static void whatThereIs() {
        BookIndex x = withEightSpans(3);
        x.addPages(1, 100, 100);
        x.setSee(2, 0);
        Checks.due("headings", x.headings(), 3);
        Checks.due("spansOf", x.spansOf(0), 8);
        Checks.due("spansOf none", x.spansOf(2), 0);
        Checks.due("startOf the first", x.startOf(0, 0), 1);
        Checks.due("startOf the last", x.startOf(0, 7), 71);
        Checks.due("endOf the first", x.endOf(0, 0), 2);
        Checks.due("endOf the last", x.endOf(0, 7), 72);
        Checks.due("pagesOf", x.pagesOf(0), 16);
        Checks.due("pagesOf one", x.pagesOf(1), 1);
        Checks.due("pagesOf none", x.pagesOf(2), 0);
        Checks.due("seeOf", x.seeOf(2), 0);
        Checks.due("seeOf none", x.seeOf(0), -1);
        Checks.due("seeAlsosOf none", x.seeAlsosOf(0), 0);
        x.turnSeeAlso(0, 1);
        x.turnSeeAlso(0, 2);
        Checks.due("seeAlsosOf", x.seeAlsosOf(0), 2);
        dueNoSuchHeading(x, "spansOf", x::spansOf);
        dueNoSuchHeading(x, "startOf", h -> x.startOf(h, 0));
        dueNoSuchHeading(x, "endOf", h -> x.endOf(h, 0));
        dueNoSuchHeading(x, "pagesOf", x::pagesOf);
        dueNoSuchHeading(x, "seeOf", x::seeOf);
        dueNoSuchHeading(x, "seeAlsosOf", x::seeAlsosOf);
        for (int span : new int[] {-1, 1, 8, Integer.MAX_VALUE, Integer.MIN_VALUE}) {
            Checks.dueThrow(x, "startOf span " + span, Checks.INDEX, () -> x.startOf(1, span));
            Checks.dueThrow(x, "endOf span " + span, Checks.INDEX, () -> x.endOf(1, span));
        }
        Checks.dueThrow(x, "startOf the ninth", Checks.INDEX, () -> x.startOf(0, 8));
        Checks.dueThrow(x, "endOf the ninth", Checks.INDEX, () -> x.endOf(0, 8));
        Checks.dueThrow(x, "startOf the first of none", Checks.INDEX, () -> x.startOf(2, 0));
    }

    private static void isOn() {
        BookIndex x = Checks.withHeadings(2);
        x.addPages(0, 1, 1);
        x.addPages(0, 40, 42);
        x.addPages(0, 100, 100);
        for (int page = 1; page <= 100; page++) {
            boolean want = page == 1 || page >= 40 && page <= 42 || page == 100;
            Checks.due("isOn " + page, x.isOn(0, page), want);
            Checks.due("isOn of another " + page, x.isOn(1, page), false);
        }
        x.takePages(0, 40, 100);
        Checks.due("isOn a page taken", x.isOn(0, 41), false);
        Checks.due("isOn the last page taken", x.isOn(0, 100), false);
        Checks.due("isOn the one left", x.isOn(0, 1), true);
        dueNoSuchHeading(x, "isOn", h -> x.isOn(h, 0));
        for (int page : new int[] {0, -1, 101, Integer.MAX_VALUE, Integer.MIN_VALUE}) {
            Checks.dueThrow(x, "isOn page " + page, Checks.ARGUMENT, () -> x.isOn(0, page));
        }
    }

    private static void headingsOn() {
        BookIndex x = Checks.withHeadings(24);
        for (int h = 0; h < 24; h++) {
            x.addPages(h, h + 1, 30);
        }
        Checks.due("headingsOn 1", x.headingsOn(1), 1);
        Checks.due("headingsOn 12", x.headingsOn(12), 12);
        Checks.due("headingsOn 30", x.headingsOn(30), 24);
        Checks.due("headingsOn 31", x.headingsOn(31), 0);
        Checks.due("headingsOn 100", x.headingsOn(100), 0);
        for (int page : new int[] {0, -1, 101, Integer.MAX_VALUE, Integer.MIN_VALUE}) {
            Checks.dueThrow(x, "headingsOn page " + page, Checks.ARGUMENT, () -> x.headingsOn(page));
        }
    }

    private static void barePages() {
        BookIndex x = Checks.withHeadings(2);
        Checks.due("all bare", x.barePages(), 100);
        x.addPages(0, 1, 10);
        x.addPages(1, 5, 15);
        x.addPages(1, 100, 100);
        Checks.due("those of both once", x.barePages(), 84);
        x.addPages(0, 20, 24);
        x.addPages(1, 20, 24);
        Checks.due("that start and end as one", x.barePages(), 79);
        x.takePages(0, 20, 24);
        Checks.due("taken from one", x.barePages(), 79);
        x.takePages(1, 20, 24);
        Checks.due("taken from both", x.barePages(), 84);
        x.putIn(101, 3);
        Checks.due("longer book", x.barePages(), 87);
        x.addPages(0, 1, 103);
        Checks.due("none bare", x.barePages(), 0);
        x.putIn(104, 100);
        x.putIn(204, 97);
        x.addPages(1, 300, 300);
        Checks.due("of 300", x.barePages(), 196);
    }

    private static void fullestPage() {
        BookIndex x = Checks.withHeadings(3);
        Checks.due("of none", x.fullestPage(), 1);
        x.addPages(0, 100, 100);
        Checks.due("the last", x.fullestPage(), 100);
        x.addPages(1, 40, 50);
        Checks.due("the smallest of several", x.fullestPage(), 40);
        x.addPages(2, 45, 47);
        Checks.due("two headings", x.fullestPage(), 45);
        x.addPages(0, 47, 47);
        Checks.due("three headings", x.fullestPage(), 47);
        x.addPages(0, 43, 43);
        x.addPages(1, 43, 43);
        x.addPages(2, 43, 43);
        Checks.due("three that start and end as one", x.fullestPage(), 43);
        x.takePages(0, 43, 43);
        x.putIn(1, 100);
        Checks.due("moved on", x.fullestPage(), 147);
        x.putIn(201, 100);
        x.takePages(0, 1, 300);
        x.takePages(1, 1, 300);
        x.takePages(2, 1, 300);
        x.addPages(2, 300, 300);
        Checks.due("page 300", x.fullestPage(), 300);
    }

    private static void leadsTo() {
        BookIndex x = Checks.withHeadings(24);
        Checks.due("without a see", x.leadsTo(5), 5);
        for (int h = 0; h < 23; h++) {
            x.setSee(h, h + 1);
        }
        Checks.due("over all 24", x.leadsTo(0), 23);
        Checks.due("the last but one", x.leadsTo(22), 23);
        Checks.due("the last", x.leadsTo(23), 23);
        x.setSee(23, 20);
        Checks.due("into a ring", x.leadsTo(0), -1);
        Checks.due("in a ring", x.leadsTo(23), -1);
        x.setSee(10, -1);
        Checks.due("ended ahead of it", x.leadsTo(0), 10);
        Checks.due("behind that", x.leadsTo(11), -1);
        x.turnSeeAlso(10, 0);
        Checks.due("a see also is not followed", x.leadsTo(3), 10);
        x.setSee(23, 0);
        x.setSee(10, 11);
        Checks.due("a ring of 24", x.leadsTo(12), -1);
        dueNoSuchHeading(x, "leadsTo", x::leadsTo);
    }

    private static void vainSees() {
        BookIndex x = Checks.withHeadings(6);
        Checks.due("without sees", x.vainSees(), 0);
        x.setSee(0, 1);
        x.setSee(1, 2);
        Checks.due("to one without pages", x.vainSees(), 2);
        x.addPages(2, 7, 7);
        Checks.due("to one with pages", x.vainSees(), 0);
        x.setSee(3, 4);
        x.setSee(4, 3);
        x.setSee(5, 4);
        Checks.due("a ring, and one into it", x.vainSees(), 3);
        x.turnSeeAlso(2, 3);
        Checks.due("a see also is none", x.vainSees(), 3);
        x.takeOut(7);
        Checks.due("all", x.vainSees(), 5);
    }

    private static void steps() {
        BookIndex x = Checks.withHeadings(24);
        Checks.due("to itself", x.steps(7, 7), 0);
        Checks.due("no way", x.steps(0, 1), -1);
        for (int h = 0; h < 23; h++) {
            x.setSee(h, h + 1);
        }
        Checks.due("over all 24", x.steps(0, 23), 23);
        Checks.due("not back", x.steps(23, 0), -1);
        x.turnSeeAlso(23, 0);
        Checks.due("back", x.steps(23, 0), 1);
        Checks.due("around", x.steps(12, 11), 23);
        x.turnSeeAlso(0, 20);
        Checks.due("the fewest", x.steps(0, 23), 4);
        Checks.due("the fewest by another way", x.steps(0, 19), 19);
        Checks.due("to itself, in a ring", x.steps(3, 3), 0);
        dueNoSuchHeading(x, "steps from", h -> x.steps(h, 0));
        dueNoSuchHeading(x, "steps to", h -> x.steps(0, h));
    }

    private static void reachOf() {
        BookIndex x = Checks.withHeadings(24);
        Checks.due("itself", x.reachOf(0), 1);
        x.turnSeeAlso(0, 1);
        x.turnSeeAlso(0, 2);
        x.setSee(0, 1);
        Checks.due("a see and a see also to the same", x.reachOf(0), 3);
        x.setSee(1, 3);
        x.setSee(2, 3);
        x.setSee(3, 0);
        Checks.due("a ring", x.reachOf(3), 4);
        for (int h = 4; h < 23; h++) {
            x.setSee(h, h + 1);
        }
        x.turnSeeAlso(23, 2);
        Checks.due("all 24", x.reachOf(4), 24);
        Checks.due("not against the steps", x.reachOf(1), 4);
        dueNoSuchHeading(x, "reachOf", x::reachOf);
    }

    private static void isInRing() {
        BookIndex x = Checks.withHeadings(24);
        Checks.due("alone", x.isInRing(0), false);
        x.setSee(0, 1);
        x.turnSeeAlso(1, 2);
        Checks.due("no way back", x.isInRing(0), false);
        x.turnSeeAlso(2, 1);
        Checks.due("into a ring only", x.isInRing(0), false);
        Checks.due("in a ring of two", x.isInRing(1), true);
        Checks.due("in it too", x.isInRing(2), true);
        x.turnSeeAlso(2, 0);
        Checks.due("in a ring of three", x.isInRing(0), true);
        for (int h = 3; h < 23; h++) {
            x.setSee(h, h + 1);
        }
        x.turnSeeAlso(23, 0);
        x.turnSeeAlso(1, 3);
        x.turnSeeAlso(2, 1);
        x.turnSeeAlso(2, 0);
        Checks.due("around nearly all", x.isInRing(3), true);
        Checks.due("aside", x.isInRing(2), false);
        dueNoSuchHeading(x, "isInRing", x::isInRing);
    }

    private static void unled() {
        BookIndex x = new BookIndex();
        Checks.due("without headings", x.unled(), 0);
        x = Checks.withHeadings(24);
        Checks.due("without steps", x.unled(), 24);
        x.setSee(0, 23);
        Checks.due("a see", x.unled(), 23);
        x.turnSeeAlso(0, 1);
        Checks.due("a see also", x.unled(), 22);
        x.turnSeeAlso(2, 1);
        Checks.due("the same again", x.unled(), 22);
        x.turnSeeAlso(1, 0);
        Checks.due("a ring", x.unled(), 21);
        x.setSee(0, -1);
        Checks.due("the see away", x.unled(), 22);
    }

    private static void spansWithGap() {
        BookIndex x = Checks.withHeadings(2);
        Checks.due("of none", x.spansWithGap(0, 100), 0);
        x.addPages(0, 1, 1);
        Checks.due("of one", x.spansWithGap(0, 0), 1);
        x.addPages(0, 3, 3);
        x.addPages(0, 6, 7);
        x.addPages(0, 11, 11);
        x.addPages(0, 13, 13);
        int[] want = {5, 3, 2, 1, 1};
        for (int gap = 0; gap < want.length; gap++) {
            Checks.due("gap " + gap, x.spansWithGap(0, gap), want[gap]);
        }
        spansDue(x, 0, "1-1 3-3 6-7 11-11 13-13");
        x.putIn(101, 10);
        x.addPages(1, 1, 1);
        x.addPages(1, 103, 103);
        Checks.due("101 between", x.spansWithGap(1, 100), 2);
        x.takeOut(50);
        Checks.due("100 between", x.spansWithGap(1, 100), 1);
        Checks.due("100 between, gap 99", x.spansWithGap(1, 99), 2);
        dueNoSuchHeading(x, "spansWithGap", h -> x.spansWithGap(h, -1));
        for (int gap : new int[] {-1, 101, Integer.MAX_VALUE, Integer.MIN_VALUE}) {
            Checks.dueThrow(x, "gap " + gap, Checks.ARGUMENT, () -> x.spansWithGap(0, gap));
        }
    }

    private static void commonPages() {
        BookIndex x = Checks.withHeadings(4);
        x.addPages(0, 10, 20);
        x.addPages(0, 30, 40);
        x.addPages(1, 15, 32);
        x.addPages(1, 40, 50);
        x.addPages(2, 21, 29);
        Checks.due("both ways", x.commonPages(0, 1), 10);
        Checks.due("and back", x.commonPages(1, 0), 10);
        Checks.due("side by side", x.commonPages(0, 2), 0);
        Checks.due("within", x.commonPages(2, 1), 9);
        Checks.due("with itself", x.commonPages(0, 0), 22);
        Checks.due("with none", x.commonPages(3, 0), 0);
        Checks.due("none with itself", x.commonPages(3, 3), 0);
        x.addPages(3, 1, 100);
        Checks.due("with one on all", x.commonPages(3, 0), 22);
        x.takePages(0, 25, 100);
        Checks.due("with pages taken", x.commonPages(3, 0), 11);
        Checks.due("with pages taken, the other way", x.commonPages(0, 3), 11);
        dueNoSuchHeading(x, "commonPages", h -> x.commonPages(h, 0));
        dueNoSuchHeading(x, "commonPages with", h -> x.commonPages(0, h));
    }

    private static void nearest() {
        BookIndex x = Checks.withHeadings(5);
        Checks.due("none has pages", x.nearest(0), -1);
        x.addPages(2, 10, 20);
        Checks.due("no other one", x.nearest(2), -1);
        x.addPages(1, 1, 9);
        Checks.due("none in common", x.nearest(2), -1);
        x.addPages(4, 19, 22);
        x.addPages(3, 10, 11);
        Checks.due("the smallest of two", x.nearest(2), 3);
        x.addPages(4, 18, 18);
        Checks.due("the most", x.nearest(2), 4);
        Checks.due("the other way", x.nearest(4), 2);
        Checks.due("still none", x.nearest(1), -1);
        x.addPages(0, 10, 12);
        Checks.due("the smallest of two, ahead of it", x.nearest(2), 0);
        dueNoSuchHeading(x, "nearest", x::nearest);
    }

    private static void spansTogether() {
        BookIndex x = withEightSpans(4);
        for (int i = 0; i < 8; i++) {
            x.addPages(1, 10 * i + 5, 10 * i + 6);
        }
        Checks.due("16", x.spansTogether(0, 1), 16);
        Checks.due("16 the other way", x.spansTogether(1, 0), 16);
        Checks.due("with itself", x.spansTogether(0, 0), 8);
        Checks.due("with none", x.spansTogether(2, 0), 8);
        Checks.due("none with none", x.spansTogether(2, 3), 0);
        x.addPages(2, 7, 10);
        Checks.due("touching one", x.spansTogether(1, 2), 8);
        Checks.due("touching another", x.spansTogether(2, 0), 8);
        x.addPages(3, 12, 61);
        Checks.due("over several", x.spansTogether(0, 3), 3);
        Checks.due("over several, the other way", x.spansTogether(3, 1), 4);
        x.addPages(3, 1, 100);
        Checks.due("over all", x.spansTogether(1, 3), 1);
        spansDue(x, 1, "5-6 15-16 25-26 35-36 45-46 55-56 65-66 75-76");
        dueNoSuchHeading(x, "spansTogether", h -> x.spansTogether(h, 0));
        dueNoSuchHeading(x, "spansTogether with", h -> x.spansTogether(0, h));
    }

    private static void meanPages() {
        BookIndex x = new BookIndex();
        Checks.due("without headings", x.meanPages(), 0.0);
        x = Checks.withHeadings(5);
        Checks.due("without pages", x.meanPages(), 0.0);
        x.addPages(0, 1, 1);
        Checks.due("of one", x.meanPages(), 1.0);
        x.addPages(4, 10, 12);
        x.addPages(4, 20, 20);
        Checks.due("a half", x.meanPages(), 2.5);
        x.addPages(2, 1, 5);
        Checks.due("a third", x.meanPages(), 10.0 / 3.0);
        x.setSee(1, 2);
        Checks.due("a see has none", x.meanPages(), 10.0 / 3.0);
    }

    /** What digest() is due to answer, told by the other calls. */
    private static long digestOf(BookIndex x) {
        long d = 2113;
        long[] ofAll = {x.bookPages(), x.headings(), x.barePages(), x.fullestPage(), x.vainSees(), x.unled()};
        for (long number : ofAll) {
            d = d * 31 + number;
        }
        for (int h = 0; h < x.headings(); h++) {
            long[] ofOne = {x.spansOf(h), x.pagesOf(h), x.seeOf(h), x.seeAlsosOf(h), x.leadsTo(h), x.reachOf(h),
                x.isInRing(h) ? 1 : 0, x.nearest(h)};
            for (long number : ofOne) {
                d = d * 31 + number;
            }
            for (int s = 0; s < x.spansOf(h); s++) {
                d = (d * 31 + x.startOf(h, s)) * 31 + x.endOf(h, s);
            }
        }
        return d;
    }

    private static void digest() {
        BookIndex x = new BookIndex();
        // 2113, then 100, 0, 100, 1, 0, 0, worked out apart from the class.
        Checks.due("of a new object", x.digest(), 1878161173114L);
        x = withEightSpans(24);
        Checks.due("with 8 spans", x.digest(), digestOf(x));
        for (int h = 1; h < 24; h++) {
            x.turnSeeAlso(h, h - 1);
            x.turnSeeAlso(h, (h * 7 + 3) % 24 == h ? 0 : (h * 7 + 3) % 24);
            if (h % 3 == 0) {
                x.setSee(h, (h + 5) % 24);
            } else {
                x.addPages(h, h * 4, h * 4 + h % 4);
            }
        }
        Checks.due("with all", x.digest(), digestOf(x));
        Checks.due("again", x.digest(), digestOf(x));
    }

    private static void manyDigestsOfOneObject() {
        BookIndex x = withEightSpans(24);
        long first = x.digest();
        for (int i = 0; i < 479; i++) {
            Checks.due("digest", x.digest(), first);
        }
    }

    private static void run(String name, Runnable test) {
        Checks.begin(name);
        test.run();
    }

    public static void main(String[] args) {
        run("promise 1", PromisesTest::newObject);
        run("promise 2, 10", PromisesTest::addHeading);
        run("promise 3", PromisesTest::addPages);
        run("promise 3, wrong calls", PromisesTest::addPagesThrows);
        run("promise 4", PromisesTest::takePages);
        run("promise 4, wrong calls", PromisesTest::takePagesThrows);
        run("promise 5", PromisesTest::setSee);
        run("promise 6", PromisesTest::turnSeeAlso);
        run("promise 7, 9", PromisesTest::putIn);
        run("promise 7, wrong calls", PromisesTest::putInThrows);
        run("promise 8, 9", PromisesTest::takeOut);
        run("promise 8, wrong calls", PromisesTest::takeOutThrows);
        run("promises 10 to 16", PromisesTest::whatThereIs);
        run("promise 17", PromisesTest::isOn);
        run("promise 18", PromisesTest::headingsOn);
        run("promise 19", PromisesTest::barePages);
        run("promise 20", PromisesTest::fullestPage);
        run("promise 21", PromisesTest::leadsTo);
        run("promise 22", PromisesTest::vainSees);
        run("promise 23", PromisesTest::steps);
        run("promise 24", PromisesTest::reachOf);
        run("promise 25", PromisesTest::isInRing);
        run("promise 26", PromisesTest::unled);
        run("promise 27", PromisesTest::spansWithGap);
        run("promise 28", PromisesTest::commonPages);
        run("promise 29", PromisesTest::nearest);
        run("promise 30", PromisesTest::spansTogether);
        run("promise 31", PromisesTest::meanPages);
        run("promise 32", PromisesTest::digest);
        run("promise 32, to the last call", PromisesTest::manyDigestsOfOneObject);
        Checks.close("PromisesTest");
    }
}
