/**
 * A pedantic index of a book: headings with spans of pages, with a see or with see alsos.
 */
public final class BookIndex {

    private static final int PAGES_AT_FIRST = 100;
    private static final int MOST_PAGES = 300;
    private static final int MOST_PUT_IN = 100;
    private static final int MOST_HEADINGS = 24;
    private static final int MOST_SPANS = 8;
    private static final int MOST_SEE_ALSOS = 4;
    private static final int MOST_GAP = 100;
    private static final int NONE = -1;
    private static final long DIGEST_START = 2113L;
    private static final long DIGEST_FACTOR = 31L;

    // The spans of two headings, none of which touch, are the most that are ever put together.
    private static final int SPAN_ROOM = 2 * MOST_SPANS;

    /** Spans in ascending order, with a page at least between two of them. */
    private static final class Spans {

        private final int[] firsts = new int[SPAN_ROOM];
        private final int[] lasts = new int[SPAN_ROOM];
        private int count;

        Spans() {
            count = 0;
        }

        int count() {
            return count;
        }

        int first(int span) {
            return span >= 0 && span < count ? firsts[span] : 0;
        }

        int last(int span) {
            return span >= 0 && span < count ? lasts[span] : 0;
        }

        int pages() {
            int sum = 0;
            for (int i = 0; i < count; i++) {
                sum += lasts[i] - firsts[i] + 1;
            }
            return sum;
        }

        boolean has(int page) {
            for (int i = 0; i < count; i++) {
                if (firsts[i] <= page && page <= lasts[i]) {
                    return true;
                }
            }
            return false;
        }

        int pagesInCommon(Spans other) {
            int sum = 0;
            int mine = 0;
            int theirs = 0;
            for (int left = count + other.count; left > 0 && mine < count && theirs < other.count; left--) {
                int from = Math.max(firsts[mine], other.firsts[theirs]);
                int to = Math.min(lasts[mine], other.lasts[theirs]);
                sum += Math.max(0, to - from + 1);
                if (lasts[mine] <= other.lasts[theirs]) {
                    mine++;
                } else {
                    theirs++;
                }
            }
            return sum;
        }

        /** Puts a span behind the others, or makes it one with the last, if gap pages or fewer are between. */
        private void append(int first, int last, int gap) {
            if (count > 0 && first - lasts[count - 1] - 1 <= gap) {
                lasts[count - 1] = Math.max(lasts[count - 1], last);
            } else if (count < SPAN_ROOM) {
                firsts[count] = first;
                lasts[count] = last;
                count++;
            }
        }

        void becomeOne(int first, int last) {
            count = 0;
            append(first, last, 0);
        }

        void becomeSame(Spans other) {
            becomeBridged(other, 0);
        }

        void becomeBridged(Spans other, int gap) {
            count = 0;
            for (int i = 0; i < other.count; i++) {
                append(other.firsts[i], other.lasts[i], gap);
            }
        }

        void becomeUnion(Spans one, Spans other) {
            count = 0;
            int ones = 0;
            int others = 0;
            for (int left = one.count + other.count; left > 0; left--) {
                boolean oneIsNext = others >= other.count
                        || ones < one.count && one.firsts[ones] <= other.firsts[others];
                if (oneIsNext) {
                    append(one.first(ones), one.last(ones), 0);
                    ones++;
                } else {
                    append(other.first(others), other.last(others), 0);
                    others++;
                }
            }
        }

        void becomeRest(Spans whole, int from, int to) {
            count = 0;
            for (int i = 0; i < whole.count; i++) {
                appendUnlessEmpty(whole.firsts[i], Math.min(whole.lasts[i], from - 1));
                appendUnlessEmpty(Math.max(whole.firsts[i], to + 1), whole.lasts[i]);
            }
        }

        void becomeWithoutPageOfBook(Spans whole, int page) {
            count = 0;
            for (int i = 0; i < whole.count; i++) {
                int first = whole.firsts[i];
                int last = whole.lasts[i];
                appendUnlessEmpty(first > page ? first - 1 : first, last >= page ? last - 1 : last);
            }
        }

        private void appendUnlessEmpty(int first, int last) {
            if (first <= last) {
                append(first, last, 0);
            }
        }

        void moveOn(int page, int many) {
            for (int i = 0; i < count; i++) {
                if (firsts[i] >= page) {
                    firsts[i] += many;
                }
                if (lasts[i] >= page) {
                    lasts[i] += many;
                }
            }
        }
    }

    private final Spans[] spansByHeading;
    private final int[] sees;
    // The see alsos of a heading, and all sets of headings, are a bit for each heading.
    private final int[] seeAlsos;
    private final int[] tally;
    // These are filled anew by the calls that need them, so that no call makes an object.
    private final Spans asked;
    private final Spans made;
    private final Spans noSpans;
    private int headingCount;
    private int pageCount;

    public BookIndex() {
        spansByHeading = new Spans[MOST_HEADINGS];
        for (int i = 0; i < MOST_HEADINGS; i++) {
            spansByHeading[i] = new Spans();
        }
        sees = new int[MOST_HEADINGS];
        seeAlsos = new int[MOST_HEADINGS];
        // One element ahead of page 1, and one behind the last page, where the last span ends.
        tally = new int[MOST_PAGES + 2];
        asked = new Spans();
        made = new Spans();
        noSpans = new Spans();
        headingCount = 0;
        pageCount = PAGES_AT_FIRST;
    }

    // ---- the index

    public int addHeading() throws IllegalStateException {
        if (headingCount >= MOST_HEADINGS) {
            throw new IllegalStateException("there are 24 headings");
        }
        int heading = headingCount;
        sees[heading] = NONE;
        headingCount++;
        return heading;
    }

    public int addPages(int heading, int from, int to)
            throws IndexOutOfBoundsException, IllegalArgumentException, IllegalStateException {
        needHeading(heading);
        needPages(from, to);
        if (seeAt(heading) != NONE) {
            throw new IllegalStateException("the heading has a see");
        }
        Spans spans = spansAt(heading);
        asked.becomeOne(from, to);
        made.becomeUnion(spans, asked);
        needRoomForMade();
        spans.becomeSame(made);
        return spans.count();
    }

    public int takePages(int heading, int from, int to)
            throws IndexOutOfBoundsException, IllegalArgumentException, IllegalStateException {
        needHeading(heading);
        needPages(from, to);
        Spans spans = spansAt(heading);
        made.becomeRest(spans, from, to);
        needRoomForMade();
        int fewer = spans.pages() - made.pages();
        spans.becomeSame(made);
        return fewer;
    }

    public int setSee(int heading, int other)
            throws IndexOutOfBoundsException, IllegalArgumentException, IllegalStateException {
        needHeading(heading);
        if (other != NONE) {
            needHeading(other);
            needTwo(heading, other);
            needNoPages(heading);
        }
        int before = sees[heading];
        sees[heading] = other;
        return before;
    }

    public int turnSeeAlso(int heading, int other)
            throws IndexOutOfBoundsException, IllegalArgumentException, IllegalStateException {
        needHeading(heading);
        needHeading(other);
        needTwo(heading, other);
        int turned = seeAlsos[heading] ^ only(other);
        if (Integer.bitCount(turned) > MOST_SEE_ALSOS) {
            throw new IllegalStateException("the heading has 4 other see alsos");
        }
        seeAlsos[heading] = turned;
        return Integer.bitCount(turned);
    }

    // ---- the book

    public int putIn(int page, int many) throws IllegalArgumentException, IllegalStateException {
        if (page < 1 || page > pageCount + 1) {
            throw new IllegalArgumentException("no such page to put pages ahead of");
        }
        if (many < 1 || many > MOST_PUT_IN) {
            throw new IllegalArgumentException("not 1 to 100 pages");
        }
        if (pageCount + many > MOST_PAGES) {
            throw new IllegalStateException("the book would have more than 300 pages");
        }
        for (int i = 0; i < headingCount; i++) {
            spansAt(i).moveOn(page, many);
        }
        pageCount += many;
        return pageCount;
    }

    public int takeOut(int page) throws IllegalArgumentException, IllegalStateException {
        needPage(page);
        if (pageCount <= 1) {
            throw new IllegalStateException("the book has one page");
        }
        int on = countHeadingsOn(page);
        for (int i = 0; i < headingCount; i++) {
            Spans spans = spansAt(i);
            made.becomeWithoutPageOfBook(spans, page);
            spans.becomeSame(made);
        }
        pageCount--;
        return on;
    }

    // ---- what there is

    public int bookPages() {
        return pageCount;
    }

    public int headings() {
        return headingCount;
    }

    public int spansOf(int heading) throws IndexOutOfBoundsException {
        needHeading(heading);
        return spansAt(heading).count();
    }

    public int startOf(int heading, int span) throws IndexOutOfBoundsException {
        needHeading(heading);
        needSpan(heading, span);
        return spansAt(heading).first(span);
    }

    public int endOf(int heading, int span) throws IndexOutOfBoundsException {
        needHeading(heading);
        needSpan(heading, span);
        return spansAt(heading).last(span);
    }

    public int pagesOf(int heading) throws IndexOutOfBoundsException {
        needHeading(heading);
        return spansAt(heading).pages();
    }

    public int seeOf(int heading) throws IndexOutOfBoundsException {
        needHeading(heading);
        return seeAt(heading);
    }

    public int seeAlsosOf(int heading) throws IndexOutOfBoundsException {
        needHeading(heading);
        return countSeeAlsos(heading);
    }

    // ---- pages

    public boolean isOn(int heading, int page) throws IndexOutOfBoundsException, IllegalArgumentException {
        needHeading(heading);
        needPage(page);
        return spansAt(heading).has(page);
    }

    public int headingsOn(int page) throws IllegalArgumentException {
        needPage(page);
        return countHeadingsOn(page);
    }

    public int barePages() {
        tallyHeadingsByPage();
        int bare = 0;
        for (int page = 1; page <= pageCount; page++) {
            if (tally[page] == 0) {
                bare++;
            }
        }
        return bare;
    }

    public int fullestPage() {
        tallyHeadingsByPage();
        int fullest = 1;
        for (int page = 2; page <= pageCount; page++) {
            if (tally[page] > tally[fullest]) {
                fullest = page;
            }
        }
        return fullest;
    }

    // ---- where one is led

    public int leadsTo(int heading) throws IndexOutOfBoundsException {
        needHeading(heading);
        return endOfSees(heading);
    }

    public int vainSees() {
        int vain = 0;
        for (int i = 0; i < headingCount; i++) {
            if (seeAt(i) != NONE && isVainEnd(endOfSees(i))) {
                vain++;
            }
        }
        return vain;
    }

    public int steps(int from, int to) throws IndexOutOfBoundsException {
        needHeading(from);
        needHeading(to);
        int reached = only(from);
        for (int taken = 0; taken < MOST_HEADINGS; taken++) {
            if ((reached & only(to)) != 0) {
                return taken;
            }
            reached |= oneStepFrom(reached);
        }
        return NONE;
    }

    public int reachOf(int heading) throws IndexOutOfBoundsException {
        needHeading(heading);
        return countReached(heading);
    }

    public boolean isInRing(int heading) throws IndexOutOfBoundsException {
        needHeading(heading);
        return comesBack(heading);
    }

    public int unled() {
        int all = (1 << headingCount) - 1;
        return headingCount - Integer.bitCount(oneStepFrom(all));
    }

    // ---- what would be

    public int spansWithGap(int heading, int gap) throws IndexOutOfBoundsException, IllegalArgumentException {
        needHeading(heading);
        if (gap < 0 || gap > MOST_GAP) {
            throw new IllegalArgumentException("not a gap of 0 to 100 pages");
        }
        made.becomeBridged(spansAt(heading), gap);
        return made.count();
    }

    public int commonPages(int one, int other) throws IndexOutOfBoundsException {
        needHeading(one);
        needHeading(other);
        return spansAt(one).pagesInCommon(spansAt(other));
    }

    public int nearest(int heading) throws IndexOutOfBoundsException {
        needHeading(heading);
        return nearestOther(heading);
    }

    public int spansTogether(int one, int other) throws IndexOutOfBoundsException {
        needHeading(one);
        needHeading(other);
        made.becomeUnion(spansAt(one), spansAt(other));
        return made.count();
    }

    public double meanPages() {
        int sum = 0;
        int withPages = 0;
        for (int i = 0; i < headingCount; i++) {
            int pages = spansAt(i).pages();
            if (pages > 0) {
                sum += pages;
                withPages++;
            }
        }
        return withPages == 0 ? 0.0 : (double) sum / withPages;
    }

    public long digest() {
        long d = DIGEST_START;
        d = digestWith(d, bookPages());
        d = digestWith(d, headings());
        d = digestWith(d, barePages());
        d = digestWith(d, fullestPage());
        d = digestWith(d, vainSees());
        d = digestWith(d, unled());
        for (int i = 0; i < headingCount; i++) {
            d = digestWithHeading(d, i);
        }
        return d;
    }

    private static long digestWith(long d, long x) {
        return d * DIGEST_FACTOR + x;
    }

    private long digestWithHeading(long before, int heading) {
        Spans spans = spansAt(heading);
        long d = digestWith(before, spans.count());
        d = digestWith(d, spans.pages());
        d = digestWith(d, seeAt(heading));
        d = digestWith(d, countSeeAlsos(heading));
        d = digestWith(d, endOfSees(heading));
        d = digestWith(d, countReached(heading));
        d = digestWith(d, comesBack(heading) ? 1 : 0);
        d = digestWith(d, nearestOther(heading));
        for (int i = 0; i < spans.count(); i++) {
            d = digestWith(d, spans.first(i));
            d = digestWith(d, spans.last(i));
        }
        return d;
    }

    // ---- what the calls need

    private boolean isHeading(int number) {
        return number >= 0 && number < headingCount;
    }

    private void needHeading(int number) throws IndexOutOfBoundsException {
        if (!isHeading(number)) {
            throw new IndexOutOfBoundsException("no such heading");
        }
    }

    private void needSpan(int heading, int span) throws IndexOutOfBoundsException {
        if (span < 0 || span >= spansAt(heading).count()) {
            throw new IndexOutOfBoundsException("no such span");
        }
    }

    private void needPage(int page) throws IllegalArgumentException {
        if (page < 1 || page > pageCount) {
            throw new IllegalArgumentException("no such page");
        }
    }

    private void needPages(int from, int to) throws IllegalArgumentException {
        if (from < 1 || to > pageCount || to < from) {
            throw new IllegalArgumentException("no such pages");
        }
    }

    private void needTwo(int heading, int other) throws IllegalArgumentException {
        if (heading == other) {
            throw new IllegalArgumentException("both headings are the same");
        }
    }

    private void needNoPages(int heading) throws IllegalStateException {
        if (spansAt(heading).count() > 0) {
            throw new IllegalStateException("the heading has pages");
        }
    }

    private void needRoomForMade() throws IllegalStateException {
        if (made.count() > MOST_SPANS) {
            throw new IllegalStateException("the heading would have more than 8 spans");
        }
    }

    // ---- a heading by its number; numbers that are none have nothing

    private Spans spansAt(int heading) {
        Spans spans = isHeading(heading) ? spansByHeading[heading] : null;
        return spans == null ? noSpans : spans;
    }

    private int seeAt(int heading) {
        return isHeading(heading) ? sees[heading] : NONE;
    }

    private int countSeeAlsos(int heading) {
        return isHeading(heading) ? Integer.bitCount(seeAlsos[heading]) : 0;
    }

    // ---- pages

    private int countHeadingsOn(int page) {
        int on = 0;
        for (int i = 0; i < headingCount; i++) {
            if (spansAt(i).has(page)) {
                on++;
            }
        }
        return on;
    }

    private void tallyHeadingsByPage() {
        for (int page = 0; page < tally.length; page++) {
            tally[page] = 0;
        }
        for (int i = 0; i < headingCount; i++) {
            tallyEnds(spansAt(i));
        }
        for (int page = 1; page < tally.length; page++) {
            tally[page] += tally[page - 1];
        }
    }

    // The sums from page 1 on over what starts and has ended are the headings by page, at a step a page.
    private void tallyEnds(Spans spans) {
        for (int i = 0; i < spans.count(); i++) {
            tallyAt(spans.first(i), 1);
            tallyAt(spans.last(i) + 1, -1);
        }
    }

    private void tallyAt(int page, int more) {
        if (page >= 0 && page < tally.length) {
            tally[page] += more;
        }
    }

    private int nearestOther(int heading) {
        int nearest = NONE;
        int most = 0;
        for (int i = 0; i < headingCount; i++) {
            int common = i == heading ? 0 : spansAt(heading).pagesInCommon(spansAt(i));
            if (common > most) {
                nearest = i;
                most = common;
            }
        }
        return nearest;
    }

    // ---- ways

    private static int only(int heading) {
        return 1 << heading;
    }

    private int endOfSees(int heading) {
        int at = heading;
        // A way by so many sees as there are headings has come to one a second time.
        for (int i = 0; i < headingCount; i++) {
            int next = seeAt(at);
            if (next == NONE) {
                return at;
            }
            at = next;
        }
        return NONE;
    }

    private boolean isVainEnd(int end) {
        return end == NONE || spansAt(end).count() == 0;
    }

    private int oneStepFrom(int some) {
        int reached = 0;
        for (int i = 0; i < headingCount; i++) {
            if ((some & only(i)) != 0) {
                reached |= seeAlsos[i];
                reached |= sees[i] == NONE ? 0 : only(sees[i]);
            }
        }
        return reached;
    }

    private int allStepsFrom(int some) {
        int reached = some;
        for (int i = 0; i < headingCount; i++) {
            int before = reached;
            reached |= oneStepFrom(before);
            if (reached == before) {
                return reached;
            }
        }
        return reached;
    }

    private int countReached(int heading) {
        return Integer.bitCount(allStepsFrom(only(heading)));
    }

    private boolean comesBack(int heading) {
        int afterOne = oneStepFrom(only(heading));
        return (allStepsFrom(afterOne) & only(heading)) != 0;
    }
}
