import java.util.TreeSet;

/** The document once more, told page by page and step by step, to compare the class with. */
final class Model {

    private static final int FAR = 1000;

    private final boolean[][] on = new boolean[24][302];
    private final int[] see = new int[24];
    private final boolean[][] also = new boolean[24][24];
    private int headings = 0;
    private int pages = 100;

    private void check(boolean fine, RuntimeException thrown) {
        if (!fine) {
            throw thrown;
        }
    }

    private void heading(int h) {
        check(0 <= h && h < headings, new IndexOutOfBoundsException());
    }

    private void argument(boolean fine) {
        check(fine, new IllegalArgumentException());
    }

    private void state(boolean fine) {
        check(fine, new IllegalStateException());
    }

    private int countSpans(boolean[] of) {
        int spans = 0;
        for (int p = 1; p <= pages; p++) {
            spans += of[p] && !of[p - 1] ? 1 : 0;
        }
        return spans;
    }

    private int countPages(boolean[] of) {
        int sum = 0;
        for (int p = 1; p <= pages; p++) {
            sum += of[p] ? 1 : 0;
        }
        return sum;
    }

    private int put(int h, int from, int to, boolean value) {
        boolean[] then = on[h].clone();
        for (int p = from; p <= to; p++) {
            then[p] = value;
        }
        state(countSpans(then) <= 8);
        int change = Math.abs(countPages(then) - countPages(on[h]));
        on[h] = then;
        return change;
    }

    int addHeading() {
        state(headings < 24);
        see[headings] = -1;
        return headings++;
    }

    int addPages(int h, int from, int to) {
        heading(h);
        argument(1 <= from && to <= pages && from <= to);
        state(see[h] == -1);
        put(h, from, to, true);
        return countSpans(on[h]);
    }

    int takePages(int h, int from, int to) {
        heading(h);
        argument(1 <= from && to <= pages && from <= to);
        return put(h, from, to, false);
    }

    int setSee(int h, int other) {
        heading(h);
        if (other != -1) {
            heading(other);
        }
        argument(h != other);
        state(other == -1 || countPages(on[h]) == 0);
        int before = see[h];
        see[h] = other;
        return before;
    }

    int turnSeeAlso(int h, int other) {
        heading(h);
        heading(other);
        argument(h != other);
        state(also[h][other] || seeAlsosOf(h) < 4);
        also[h][other] = !also[h][other];
        return seeAlsosOf(h);
    }

    int putIn(int page, int many) {
        argument(1 <= page && page <= pages + 1);
        argument(1 <= many && many <= 100);
        state(pages + many <= 300);
        for (int i = 0; i < many; i++) {
            for (int h = 0; h < headings; h++) {
                for (int p = pages; p >= page; p--) {
                    on[h][p + 1] = on[h][p];
                }
                on[h][page] = on[h][page - 1] && on[h][page + 1];
            }
            pages++;
        }
        return pages;
    }

    int takeOut(int page) {
        argument(1 <= page && page <= pages);
        state(pages > 1);
        int were = headingsOn(page);
        for (int h = 0; h < headings; h++) {
            for (int p = page; p <= pages; p++) {
                on[h][p] = on[h][p + 1];
            }
        }
        pages--;
        return were;
    }

    int bookPages() {
        return pages;
    }

    int headings() {
        return headings;
    }

    int spansOf(int h) {
        heading(h);
        return countSpans(on[h]);
    }

    int startOf(int h, int span) {
        heading(h);
        int seen = 0;
        for (int p = 1; p <= pages; p++) {
            if (on[h][p] && !on[h][p - 1] && seen++ == span) {
                return p;
            }
        }
        throw new IndexOutOfBoundsException();
    }

    int endOf(int h, int span) {
        int p = startOf(h, span);
        while (on[h][p + 1]) {
            p++;
        }
        return p;
    }

    int pagesOf(int h) {
        heading(h);
        return countPages(on[h]);
    }

    int seeOf(int h) {
        heading(h);
        return see[h];
    }

    int seeAlsosOf(int h) {
        heading(h);
        int sum = 0;
        for (int i = 0; i < headings; i++) {
            sum += also[h][i] ? 1 : 0;
        }
        return sum;
    }

    boolean isOn(int h, int page) {
        heading(h);
        argument(1 <= page && page <= pages);
        return on[h][page];
    }

    int headingsOn(int page) {
        argument(1 <= page && page <= pages);
        int sum = 0;
        for (int h = 0; h < headings; h++) {
            sum += on[h][page] ? 1 : 0;
        }
        return sum;
    }

    int barePages() {
        int bare = 0;
        for (int p = 1; p <= pages; p++) {
            bare += headingsOn(p) == 0 ? 1 : 0;
        }
        return bare;
    }

    int fullestPage() {
        int fullest = 1;
        for (int p = pages; p >= 1; p--) {
            fullest = headingsOn(p) >= headingsOn(fullest) ? p : fullest;
        }
        return fullest;
    }

    int leadsTo(int h) {
        heading(h);
        TreeSet<Integer> met = new TreeSet<>();
        int at = h;
        while (see[at] != -1 && met.add(at)) {
            at = see[at];
        }
        return see[at] == -1 ? at : -1;
    }

    int vainSees() {
        int vain = 0;
        for (int h = 0; h < headings; h++) {
            int end = leadsTo(h);
            vain += see[h] != -1 && (end == -1 || countPages(on[end]) == 0) ? 1 : 0;
        }
        return vain;
    }

    /** The fewest steps from each heading to each, one at least, by Floyd and Warshall. */
    private int[][] ways() {
        int[][] way = new int[headings][headings];
        for (int a = 0; a < headings; a++) {
            for (int b = 0; b < headings; b++) {
                way[a][b] = see[a] == b || also[a][b] ? 1 : FAR;
            }
        }
        for (int by = 0; by < headings; by++) {
            for (int a = 0; a < headings; a++) {
                for (int b = 0; b < headings; b++) {
                    way[a][b] = Math.min(way[a][b], way[a][by] + way[by][b]);
                }
            }
        }
        return way;
    }

    int steps(int from, int to) {
        heading(from);
        heading(to);
        int way = ways()[from][to];
        return from == to ? 0 : way >= FAR ? -1 : way;
    }

    int reachOf(int h) {
        heading(h);
        int[] way = ways()[h];
        int sum = 0;
        for (int i = 0; i < headings; i++) {
            sum += i == h || way[i] < FAR ? 1 : 0;
        }
        return sum;
    }

    boolean isInRing(int h) {
        heading(h);
        return ways()[h][h] < FAR;
    }

    int unled() {
        int sum = headings;
        for (int h = 0; h < headings; h++) {
            for (int by = 0; by < headings; by++) {
                if (by != h && (see[by] == h || also[by][h])) {
                    sum--;
                    break;
                }
            }
        }
        return sum;
    }

    int spansWithGap(int h, int gap) {
        heading(h);
        argument(0 <= gap && gap <= 100);
        int spans = 0;
        int last = -FAR;
        for (int p = 1; p <= pages; p++) {
            if (on[h][p]) {
                spans += p - last - 1 > gap ? 1 : 0;
                last = p;
            }
        }
        return spans;
    }

    int commonPages(int one, int other) {
        heading(one);
        heading(other);
        int sum = 0;
        for (int p = 1; p <= pages; p++) {
            sum += on[one][p] && on[other][p] ? 1 : 0;
        }
        return sum;
    }

    int nearest(int h) {
        heading(h);
        int nearest = -1;
        for (int i = headings - 1; i >= 0; i--) {
            int common = i == h ? 0 : commonPages(h, i);
            if (common > 0 && (nearest == -1 || common >= commonPages(h, nearest))) {
                nearest = i;
            }
        }
        return nearest;
    }

    int spansTogether(int one, int other) {
        heading(one);
        heading(other);
        boolean[] both = on[one].clone();
        for (int p = 1; p <= pages; p++) {
            both[p] |= on[other][p];
        }
        return countSpans(both);
    }

    double meanPages() {
        double sum = 0;
        int many = 0;
        for (int h = 0; h < headings; h++) {
            sum += countPages(on[h]);
            many += countPages(on[h]) > 0 ? 1 : 0;
        }
        return many == 0 ? 0 : sum / many;
    }

    long digest() {
        long d = 2113;
        for (int x : new int[] {bookPages(), headings(), barePages(), fullestPage(), vainSees(), unled()}) {
            d = d * 31 + x;
        }
        for (int h = 0; h < headings; h++) {
            int[] ofOne = {spansOf(h), pagesOf(h), seeOf(h), seeAlsosOf(h), leadsTo(h), reachOf(h),
                isInRing(h) ? 1 : 0, nearest(h)};
            for (int x : ofOne) {
                d = d * 31 + x;
            }
            for (int s = 0; s < spansOf(h); s++) {
                d = (d * 31 + startOf(h, s)) * 31 + endOf(h, s);
            }
        }
        return d;
    }
}
