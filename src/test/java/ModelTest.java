/** Compares the class with the model over many runs of 512 calls at most, wrong ones among them. */
public final class ModelTest {

    private static final int RUNS = 3000;
    private static final int CALLS = 512;
    // A round makes two changes at most and asks once; all questions without arguments are asked at the end of a few.
    private static final int CALLS_OF_ROUND = 3;
    private static final int CALLS_WITHOUT_ARGUMENTS = 8;

    private long seed;
    private BookIndex x;
    private Model m;
    // How wide the pages of addPages are, and how many headings a run makes, differ by run.
    private int width;
    private int headingsWanted;
    private boolean moreBook;
    private int calls = 0;

    private ModelTest(int run) {
        seed = 77 + 1000L * run;
        x = new BookIndex();
        m = new Model();
        width = new int[] {1, 2, 4, 30}[run % 4];
        headingsWanted = new int[] {24, 3, 8}[run % 3];
        moreBook = run % 5 == 0;
    }

    private int below(int bound) {
        seed = seed * 6364136223846793005L + 1442695040888963407L;
        return (int) ((seed >>> 33) % bound);
    }

    private int someHeading() {
        int choice = below(60);
        if (choice == 0) {
            return new int[] {-1, -2, 24, Integer.MAX_VALUE, Integer.MIN_VALUE}[below(5)];
        }
        return choice == 1 ? m.headings() : below(Math.max(1, m.headings()));
    }

    private int somePage() {
        int choice = below(60);
        if (choice == 0) {
            return new int[] {0, -1, 301, Integer.MAX_VALUE, Integer.MIN_VALUE}[below(5)];
        }
        return choice < 3 ? m.bookPages() + below(3) : 1 + below(m.bookPages());
    }

    private void compare(String call, Checks.Call ofClass, Checks.Call ofModel) {
        calls++;
        Checks.due(call, Checks.answerOf(ofClass), Checks.answerOf(ofModel));
    }

    private void callThatChanges() {
        int h = someHeading();
        int other = below(8) == 0 ? -1 : someHeading();
        int from = somePage();
        int to = below(30) == 0 ? somePage() : from + below(width);
        int many = below(20) == 0 ? below(103) - 1 : 1 + below(4);
        switch (below(moreBook ? 16 : 12)) {
            case 0 -> {
                if (m.headings() < headingsWanted || below(20) == 0) {
                    compare("addHeading()", x::addHeading, m::addHeading);
                }
            }
            case 1, 2, 3, 4, 5 -> compare("addPages(" + h + ", " + from + ", " + to + ")",
                    () -> x.addPages(h, from, to), () -> m.addPages(h, from, to));
            case 6, 7 -> compare("takePages(" + h + ", " + from + ", " + to + ")",
                    () -> x.takePages(h, from, to), () -> m.takePages(h, from, to));
            case 8 -> {
                if (below(4) == 0 && 0 <= h && h < m.headings()) {
                    compare("takePages of all", () -> x.takePages(h, 1, m.bookPages()),
                            () -> m.takePages(h, 1, m.bookPages()));
                }
                compare("setSee(" + h + ", " + other + ")", () -> x.setSee(h, other), () -> m.setSee(h, other));
            }
            case 9, 10 -> compare("turnSeeAlso(" + h + ", " + other + ")",
                    () -> x.turnSeeAlso(h, other), () -> m.turnSeeAlso(h, other));
            case 11 -> compare("putIn(" + from + ", " + many + ")",
                    () -> x.putIn(from, many), () -> m.putIn(from, many));
            default -> compare("takeOut(" + from + ")", () -> x.takeOut(from), () -> m.takeOut(from));
        }
    }

    private void callThatAsks() {
        int h = someHeading();
        int other = someHeading();
        int page = somePage();
        int span = below(10) - 1;
        int gap = below(3) == 0 ? below(104) - 1 : below(8);
        String ofTwo = "(" + h + ", " + other + ")";
        switch (below(16)) {
            case 0 -> compare("spansOf " + h, () -> x.spansOf(h), () -> m.spansOf(h));
            case 1 -> compare("startOf " + h + ", " + span, () -> x.startOf(h, span), () -> m.startOf(h, span));
            case 2 -> compare("endOf " + h + ", " + span, () -> x.endOf(h, span), () -> m.endOf(h, span));
            case 3 -> compare("pagesOf " + h, () -> x.pagesOf(h), () -> m.pagesOf(h));
            case 4 -> compare("seeOf " + h, () -> x.seeOf(h), () -> m.seeOf(h));
            case 5 -> compare("seeAlsosOf " + h, () -> x.seeAlsosOf(h), () -> m.seeAlsosOf(h));
            case 6 -> compare("isOn " + h + ", " + page, () -> x.isOn(h, page), () -> m.isOn(h, page));
            case 7 -> compare("headingsOn " + page, () -> x.headingsOn(page), () -> m.headingsOn(page));
            case 8 -> compare("leadsTo " + h, () -> x.leadsTo(h), () -> m.leadsTo(h));
            case 9 -> compare("steps " + ofTwo, () -> x.steps(h, other), () -> m.steps(h, other));
            case 10 -> compare("reachOf " + h, () -> x.reachOf(h), () -> m.reachOf(h));
            case 11 -> compare("isInRing " + h, () -> x.isInRing(h), () -> m.isInRing(h));
            case 12 -> compare("spansWithGap " + h + ", " + gap, () -> x.spansWithGap(h, gap),
                    () -> m.spansWithGap(h, gap));
            case 13 -> compare("commonPages " + ofTwo, () -> x.commonPages(h, other), () -> m.commonPages(h, other));
            case 14 -> compare("nearest " + h, () -> x.nearest(h), () -> m.nearest(h));
            default -> compare("spansTogether " + ofTwo, () -> x.spansTogether(h, other),
                    () -> m.spansTogether(h, other));
        }
    }

    private void compareAll() {
        compare("bookPages", x::bookPages, m::bookPages);
        compare("headings", x::headings, m::headings);
        compare("barePages", x::barePages, m::barePages);
        compare("fullestPage", x::fullestPage, m::fullestPage);
        compare("vainSees", x::vainSees, m::vainSees);
        compare("unled", x::unled, m::unled);
        compare("meanPages", x::meanPages, m::meanPages);
        compare("digest", x::digest, m::digest);
    }

    private void run(String name) {
        int round = 0;
        while (calls <= CALLS - CALLS_OF_ROUND - CALLS_WITHOUT_ARGUMENTS) {
            Checks.begin(name + ", round " + round);
            callThatChanges();
            callThatAsks();
            if (round % 32 == 31) {
                compareAll();
            }
            round++;
        }
        compareAll();
    }

    public static void main(String[] args) {
        for (int run = 0; run < RUNS; run++) {
            new ModelTest(run).run("run " + run);
        }
        Checks.close("ModelTest");
    }
}
