import java.io.IOException;
import java.lang.reflect.Method;
import java.nio.file.Files;
import java.nio.file.Path;

/**
 * The document from its first line to its last: each sentence is quoted in its place, with a check of its own. A
 * sentence that is new, gone or other than quoted is told as a fault, so that none is left without a check.
 */
public final class DocumentTest {

    private static final Path DOCUMENT = Path.of("../shared/DOC.md");
    private static final Path SOURCE = Path.of("src/main/java/BookIndex.java");

    private static final Edges.Script NONE = x -> { };
    private static final Edges.Script THREE = Edges.headings(3);
    private static final Edges.Script ALL = Edges.headings(24);
    private static final Edges.Script EIGHT = THREE.then(Edges.eightSpans(0));
    private static final Edges.Script FOUR_ALSOS = Edges.headings(6).then(Edges.also(0, 1, 2, 3, 4));
    private static final Edges.Script SEE = THREE.then(Edges.see(1, 2));
    /** 0 is on 4-6 and 9-9, 1 on 6-9, 2 on none. */
    private static final Edges.Script SPANS = THREE.then(Edges.pages(0, 4, 6)).then(Edges.pages(0, 9, 9))
            .then(Edges.pages(1, 6, 9));
    /** 0 tells 1, 1 tells 2; 3 and 4 tell each other; 5 tells 3; 2 leads to 6 too, and 6 has pages. */
    private static final Edges.Script WAYS = Edges.headings(7).then(Edges.chain(0, 2)).then(Edges.see(3, 4))
            .then(Edges.see(4, 3)).then(Edges.see(5, 3)).then(Edges.also(2, 6)).then(Edges.pages(6, 1, 2));

    private static String document = "";
    private static String source = "";
    private static int at = 0;
    private static String part = "";

    private DocumentTest() {
    }

    // ---- the walk

    /** The document says so here, and these checks hold. */
    private static void says(String words, Runnable... checks) {
        stands(words);
        Checks.due("has a check", checks.length > 0, true);
        for (Runnable each : checks) {
            Edges.edge(part + ": " + words, each);
        }
    }

    /** The document names something here that the sentences around it say more of, or says what is free. */
    private static void names(String words) {
        stands(words);
    }

    private static void stands(String words) {
        passMarks();
        Checks.begin(part);
        boolean here = document.startsWith(words, at);
        Checks.due("the document where it should say: " + words,
                here ? words : document.substring(at, Math.min(document.length(), at + words.length())), words);
        int found = document.indexOf(words, at);
        at = found < 0 ? at : found + words.length();
    }

    /** Passes what is no sentence: titles, the face, signatures, the names of arguments. */
    private static void passMarks() {
        boolean passed = true;
        while (passed) {
            int before = at;
            while (at < document.length() && Character.isWhitespace(document.charAt(at))) {
                at++;
            }
            if (document.startsWith("#", at)) {
                part = document.substring(at, document.indexOf("\n", at)).replace("#", "").strip();
                at = document.indexOf("\n", at);
            } else if (document.startsWith("```java", at)) {
                at = document.indexOf("```", at + 1) + 3;
            } else if (document.startsWith("- `", at) || document.startsWith("`", at)) {
                passCode();
            }
            passed = at > before;
        }
    }

    private static void passCode() {
        int open = document.indexOf("`", at);
        int close = document.indexOf("`", open + 1);
        if (document.charAt(at) == '`') {
            String face = document.substring(0, document.indexOf("## Terms"));
            String signature = "public " + document.substring(open + 1, close) + ";";
            Checks.due("the face has " + signature, face.contains(signature), true);
        }
        at = close + ":".length() + 1;
    }

    // ---- checks

    private static Runnable is(Edges.Script before, Edges.Question call, Object want) {
        return () -> Edges.unchanged(before, call, want);
    }

    private static Runnable does(Edges.Script before, Edges.Question call, Object want, int heading, String spans) {
        return () -> Edges.answered(before, call, want, heading, spans);
    }

    private static Runnable refuses(Class<?> want, Edges.Script before, Edges.Question call) {
        return () -> Edges.refused(before, call, want);
    }

    private static Runnable needsHeading(Edges.OfHeading call) {
        return () -> {
            for (int wrong : new int[] {-1, 3, Integer.MIN_VALUE, Integer.MAX_VALUE}) {
                Edges.refused(SPANS, x -> call.answer(x, wrong), Checks.INDEX);
            }
            Edges.refused(NONE, x -> call.answer(x, 0), Checks.INDEX);
        };
    }

    private static Runnable needsPage(Edges.OfHeading call) {
        return () -> {
            for (int wrong : new int[] {0, 101, Integer.MIN_VALUE, Integer.MAX_VALUE}) {
                Edges.refused(SPANS, x -> call.answer(x, wrong), Checks.ARGUMENT);
            }
            Edges.refused(SPANS.then(Edges.book(40)), x -> call.answer(x, 41), Checks.ARGUMENT);
        };
    }

    private static void sectionDue(String section, String... calls) {
        for (String call : calls) {
            int face = source.indexOf(" " + call + "(");
            int line = source.lastIndexOf("// ---- ", face);
            String ahead = line < 0 ? "none" : source.substring(line + "// ---- ".length(), source.indexOf("\n", line));
            Checks.due("the section of " + call, ahead, section);
        }
    }

    // ---- the document

    private static void whatItIs() {
        names("A pedantic index of a book.");
        says("An object is used for at most 512 calls after it has been made;", () -> {
            BookIndex x = SPANS.made();
            long digest = x.digest();
            for (int call = 8; call <= 512; call++) {
                Checks.due("call " + call, x.digest(), digest);
            }
        });
        names("what later calls answer is free.");
    }

    private static void termsAtFirst() {
        says("Headings have spans of pages, which are merged as they touch;",
                does(SPANS, x -> x.addPages(0, 7, 8), 1, 0, "4-9"));
        says("some headings have no pages but a see,", is(SEE, x -> x.pagesOf(1), 0), is(SEE, x -> x.seeOf(1), 2));
        says("some have see alsos,", is(FOUR_ALSOS, x -> x.seeAlsosOf(0), 4));
        says("and these may lead in rings;",
                is(THREE.then(Edges.also(0, 1)).then(Edges.also(1, 0)), x -> x.isInRing(0), true));
        says("pages are put into the book and taken out,", is(Edges.book(103), BookIndex::bookPages, 103),
                is(Edges.book(97), BookIndex::bookPages, 97));
        says("and all spans go with them;", does(SPANS, x -> x.putIn(9, 4), 104, 0, "4-6 13-13"),
                does(SPANS, x -> x.takeOut(1), 0, 1, "5-8"));
        says("and one can ask on which pages a heading is,", is(SPANS, x -> x.startOf(1, 0), 6),
                is(SPANS, x -> x.endOf(1, 0), 9));
        says("what is on a page,", is(SPANS, x -> x.headingsOn(6), 2));
        says("where a see ends,", is(WAYS, x -> x.leadsTo(0), 2));
        says("how one comes from heading to heading,", is(WAYS, x -> x.steps(0, 6), 3));
        says("which headings nobody is led to,", is(WAYS, BookIndex::unled, 2));
        says("which pages have none,", is(SPANS, BookIndex::barePages, 94));
        says("and how two headings would be as one.", is(SPANS, x -> x.spansTogether(0, 1), 1));
        says("All numbers are whole.", () -> {
            for (Method each : BookIndex.class.getMethods()) {
                if (each.getDeclaringClass() == BookIndex.class) {
                    for (Class<?> argument : each.getParameterTypes()) {
                        Checks.due("an argument of " + each.getName(), argument, int.class);
                    }
                }
            }
        });
    }

    private static void termsOfWhatThereIs() {
        names("Pages.");
        says("The book has 1 to 300 pages,", refuses(Checks.STATE, Edges.book(1), x -> x.takeOut(1)),
                refuses(Checks.STATE, Edges.book(300), x -> x.putIn(300, 1)));
        says("numbered from 1", is(SPANS, x -> x.headingsOn(1), 0),
                refuses(Checks.ARGUMENT, SPANS, x -> x.headingsOn(0)));
        says("(100, at first).", is(NONE, BookIndex::bookPages, 100));
        names("Headings.");
        says("At most 24,", refuses(Checks.STATE, ALL, BookIndex::addHeading));
        says("numbered from 0;", () -> {
            BookIndex x = new BookIndex();
            for (int heading = 0; heading < 24; heading++) {
                Checks.due("addHeading", x.addHeading(), heading);
            }
        });
        says("each has spans of pages,", does(ALL, x -> x.addPages(23, 5, 8), 1, 23, "5-8"));
        says("at most 8,", is(EIGHT, x -> x.spansOf(0), 8), refuses(Checks.STATE, EIGHT, x -> x.addPages(0, 80, 81)));
        says("or none;", is(THREE, x -> x.spansOf(2), 0));
        says("a see,", is(SEE, x -> x.seeOf(1), 2));
        says("or none;", is(SEE, x -> x.seeOf(2), -1));
        says("and see alsos,", is(FOUR_ALSOS, x -> x.steps(0, 3), 1));
        says("at most 4.", refuses(Checks.STATE, FOUR_ALSOS, x -> x.turnSeeAlso(0, 5)));
        says("A heading with a see has no spans.", refuses(Checks.STATE, SEE, x -> x.addPages(1, 1, 1)),
                refuses(Checks.STATE, SPANS, x -> x.setSee(1, 2)));
        names("Spans.");
        says("Each goes from a page to a page that is the same or a greater one.",
                does(THREE, x -> x.addPages(0, 8, 8), 1, 0, "8-8"), does(THREE, x -> x.addPages(0, 8, 9), 1, 0, "8-9"),
                refuses(Checks.ARGUMENT, THREE, x -> x.addPages(0, 8, 7)));
        says("Those of a heading are in ascending order,",
                does(SPANS, x -> x.addPages(0, 2, 2), 3, 0, "2-2 4-6 9-9"));
        says("and between two of them there is a page at least that is in none.",
                does(SPANS, x -> x.addPages(0, 7, 7), 2, 0, "4-7 9-9"), does(SPANS, x -> x.addPages(0, 8, 8), 2, 0,
                        "4-6 8-9"), does(SPANS, x -> x.addPages(0, 2, 3), 2, 0, "2-6 9-9"));
    }

    private static void termsOfWays() {
        says("Following the see of a heading: to the heading that is told by it,", is(WAYS, x -> x.leadsTo(1), 2));
        says("and on from there, as long as there is a see.", is(WAYS, x -> x.leadsTo(0), 2));
        says("It ends at the first heading without a see;", is(WAYS, x -> x.leadsTo(2), 2),
                is(WAYS.then(Edges.see(1, -1)), x -> x.leadsTo(0), 1));
        says("if it comes to a heading a second time, it does not end.", is(WAYS, x -> x.leadsTo(3), -1),
                is(WAYS, x -> x.leadsTo(5), -1));
        names("Ways.");
        says("One step leads from a heading to that told by its see,", is(WAYS, x -> x.steps(5, 3), 1));
        says("and to each of its see alsos.", is(FOUR_ALSOS, x -> x.reachOf(0), 5), is(WAYS, x -> x.steps(2, 6), 1));
        says("One comes from a heading to another one, if some steps do,", is(WAYS, x -> x.steps(5, 4), 2),
                is(WAYS, x -> x.steps(5, 6), -1));
        says("or none, if both are the same.", is(WAYS, x -> x.steps(6, 6), 0), is(WAYS, x -> x.steps(3, 3), 0));
        says("A method that throws an exception changes nothing.",
                refuses(Checks.STATE, EIGHT, x -> x.addPages(0, 4, 9)),
                refuses(Checks.STATE, EIGHT.then(Edges.pages(0, 1, 4)), x -> x.takePages(0, 2, 3)),
                refuses(Checks.STATE, EIGHT.then(Edges.book(300)), x -> x.putIn(1, 1)),
                refuses(Checks.STATE, THREE.then(Edges.book(1)).then(Edges.pages(0, 1, 1)), x -> x.takeOut(1)));
        says("If several exceptions apply, the one that is named first is thrown.", DocumentTest::severalExceptions);
    }

    private static void severalExceptions() {
        Edges.Script full = EIGHT.then(Edges.see(1, 2));
        Edges.refused(full, x -> x.addPages(3, 0, 0), Checks.INDEX);
        Edges.refused(full, x -> x.addPages(1, 100, 101), Checks.ARGUMENT);
        Edges.refused(full, x -> x.addPages(0, 101, 101), Checks.ARGUMENT);
        Edges.refused(full, x -> x.takePages(-1, 2, 1), Checks.INDEX);
        Edges.refused(EIGHT.then(Edges.pages(0, 1, 4)), x -> x.takePages(0, 3, 2), Checks.ARGUMENT);
        Edges.refused(full, x -> x.setSee(3, 3), Checks.INDEX);
        Edges.refused(full, x -> x.setSee(0, 3), Checks.INDEX);
        Edges.refused(full, x -> x.setSee(0, 0), Checks.ARGUMENT);
        Edges.refused(FOUR_ALSOS, x -> x.turnSeeAlso(6, 6), Checks.INDEX);
        Edges.refused(FOUR_ALSOS, x -> x.turnSeeAlso(0, 6), Checks.INDEX);
        Edges.refused(FOUR_ALSOS, x -> x.turnSeeAlso(0, 0), Checks.ARGUMENT);
        Edges.refused(Edges.book(300), x -> x.putIn(302, 1), Checks.ARGUMENT);
        Edges.refused(Edges.book(300), x -> x.putIn(1, 0), Checks.ARGUMENT);
        Edges.refused(Edges.book(1), x -> x.takeOut(2), Checks.ARGUMENT);
        Edges.refused(full, x -> x.isOn(3, 101), Checks.INDEX);
        Edges.refused(full, x -> x.spansWithGap(3, 101), Checks.INDEX);
    }

    private static void termsOfSections() {
        says("Ahead of the calls `addHeading`, `addPages`, `takePages`, `setSee`, `turnSeeAlso` the interface says:"
                + " ---- the index.",
                () -> sectionDue("the index", "addHeading", "addPages", "takePages", "setSee", "turnSeeAlso"));
        says("Ahead of the calls `putIn`, `takeOut` the interface says: ---- the book.",
                () -> sectionDue("the book", "putIn", "takeOut"));
        says("Ahead of the calls `bookPages`, `headings`, `spansOf`, `startOf`, `endOf`, `pagesOf`, `seeOf`,"
                + " `seeAlsosOf` the interface says: ---- what there is.",
                () -> sectionDue("what there is", "bookPages", "headings", "spansOf", "startOf", "endOf", "pagesOf",
                        "seeOf", "seeAlsosOf"));
        says("Ahead of the calls `isOn`, `headingsOn`, `barePages`, `fullestPage` the interface says: ---- pages.",
                () -> sectionDue("pages", "isOn", "headingsOn", "barePages", "fullestPage"));
        says("Ahead of the calls `leadsTo`, `vainSees`, `steps`, `reachOf`, `isInRing`, `unled` the interface says:"
                + " ---- where one is led.",
                () -> sectionDue("where one is led", "leadsTo", "vainSees", "steps", "reachOf", "isInRing", "unled"));
        says("Ahead of the calls `spansWithGap`, `commonPages`, `nearest`, `spansTogether`, `meanPages`, `digest` the"
                + " interface says: ---- what would be.",
                () -> sectionDue("what would be", "spansWithGap", "commonPages", "nearest", "spansTogether",
                        "meanPages", "digest"));
    }

    private static void newObjectAndHeading() {
        says("Creates an index without headings,", is(NONE, BookIndex::headings, 0));
        says("of a book of 100 pages.", is(NONE, BookIndex::bookPages, 100), is(NONE, BookIndex::barePages, 100));
        says("Returns the number of a new heading.", () -> {
            BookIndex x = Edges.answered(FOUR_ALSOS, BookIndex::addHeading, 6);
            Checks.due("headings", x.headings(), 7);
            Checks.due("seeOf", x.seeOf(6), -1);
            Checks.due("seeAlsosOf", x.seeAlsosOf(6), 0);
            Edges.spansDue(x, 6, "");
        });
        says("Throws `IllegalStateException` if there are 24", is(Edges.headings(23), BookIndex::headings, 23),
                does(Edges.headings(23), BookIndex::addHeading, 23, 23, ""),
                refuses(Checks.STATE, ALL, BookIndex::addHeading));
    }

    private static void addPages() {
        says("Puts pages to a heading;", does(SPANS, x -> x.addPages(2, 40, 44), 1, 2, "40-44"));
        says("spans that then have a page in common,", does(SPANS, x -> x.addPages(0, 5, 7), 2, 0, "4-7 9-9"),
                does(SPANS, x -> x.addPages(0, 6, 9), 1, 0, "4-9"),
                does(SPANS, x -> x.addPages(1, 1, 20), 1, 1, "1-20"));
        says("or no page between them, become one.", does(SPANS, x -> x.addPages(0, 10, 11), 2, 0, "4-6 9-11"),
                does(SPANS, x -> x.addPages(0, 11, 11), 3, 0, "4-6 9-9 11-11"),
                does(SPANS, x -> x.addPages(0, 7, 8), 1, 0, "4-9"));
        names("the heading");
        says("the first page", does(THREE, x -> x.addPages(0, 31, 100), 1, 0, "31-100"));
        says("the last page", does(THREE, x -> x.addPages(0, 1, 31), 1, 0, "1-31"));
        says("Returns how many spans it has then.", does(EIGHT, x -> x.addPages(0, 13, 20), 7, 0,
                "1-2 11-22 31-32 41-42 51-52 61-62 71-72"));
        says("Throws `IndexOutOfBoundsException` if there is no such heading",
                needsHeading((x, h) -> x.addPages(h, 1, 1)));
        says("Throws `IllegalArgumentException` if from is less than 1,",
                refuses(Checks.ARGUMENT, SPANS, x -> x.addPages(0, 0, 3)));
        says("to is greater than the pages of the book,",
                refuses(Checks.ARGUMENT, SPANS, x -> x.addPages(0, 100, 101)),
                does(SPANS.then(Edges.book(101)), x -> x.addPages(2, 100, 101), 1, 2, "100-101"));
        says("or to is less than from", refuses(Checks.ARGUMENT, SPANS, x -> x.addPages(0, 6, 5)));
        says("Throws `IllegalStateException` if it has a see,", refuses(Checks.STATE, SEE, x -> x.addPages(1, 9, 9)));
        says("or would have more than 8 spans", refuses(Checks.STATE, EIGHT, x -> x.addPages(0, 14, 14)),
                does(EIGHT.then(x -> x.takePages(0, 1, 2)), x -> x.addPages(0, 14, 14), 8, 0,
                        "11-12 14-14 21-22 31-32 41-42 51-52 61-62 71-72"));
    }

    private static void takePages() {
        says("Takes pages from a heading;", does(SPANS, x -> x.takePages(0, 6, 100), 2, 0, "4-5"),
                does(SPANS, x -> x.takePages(0, 1, 4), 1, 1, "6-9"));
        says("a span may become two by that.", does(SPANS, x -> x.takePages(1, 7, 8), 2, 1, "6-6 9-9"));
        names("the heading");
        says("the first page", does(SPANS, x -> x.takePages(1, 8, 100), 2, 1, "6-7"));
        says("the last page", does(SPANS, x -> x.takePages(1, 1, 7), 2, 1, "8-9"));
        says("Returns how many pages it has fewer then.", does(SPANS, x -> x.takePages(0, 5, 9), 3, 0, "4-4"),
                is(SPANS, x -> x.takePages(0, 7, 8), 0), is(SEE, x -> x.takePages(1, 1, 100), 0));
        says("Throws `IndexOutOfBoundsException` if there is no such heading",
                needsHeading((x, h) -> x.takePages(h, 1, 1)));
        says("Throws `IllegalArgumentException` if from is less than 1,",
                refuses(Checks.ARGUMENT, SPANS, x -> x.takePages(0, 0, 4)));
        says("to is greater than the pages of the book,",
                refuses(Checks.ARGUMENT, SPANS, x -> x.takePages(0, 4, 101)));
        says("or to is less than from", refuses(Checks.ARGUMENT, SPANS, x -> x.takePages(0, 6, 5)));
        says("Throws `IllegalStateException` if it would have more than 8 spans",
                refuses(Checks.STATE, EIGHT.then(Edges.pages(0, 3, 3)), x -> x.takePages(0, 2, 2)),
                does(EIGHT.then(Edges.pages(0, 3, 3)), x -> x.takePages(0, 3, 3), 1, 0,
                        "1-2 11-12 21-22 31-32 41-42 51-52 61-62 71-72"));
    }

    private static void setSee() {
        says("Gives a heading a see,", () -> Checks.due("seeOf",
                Edges.answered(THREE, x -> x.setSee(0, 2), -1).seeOf(0), 2));
        says("in the place of the one before.", () -> Checks.due("seeOf",
                Edges.answered(SEE, x -> x.setSee(1, 0), 2).seeOf(1), 0));
        names("the heading");
        says("the heading that is told by it;", () -> Checks.due("leadsTo",
                Edges.answered(SEE, x -> x.setSee(0, 1), -1).leadsTo(0), 2));
        says("-1 for no see", () -> Checks.due("seeOf", Edges.answered(SEE, x -> x.setSee(1, -1), 2).seeOf(1), -1));
        says("Returns the one told before;", is(SEE, x -> x.setSee(1, 2), 2));
        says("-1 for none.", is(SEE, x -> x.setSee(2, -1), -1), is(SPANS, x -> x.setSee(0, -1), -1));
        says("Throws `IndexOutOfBoundsException` if there is no such heading,",
                needsHeading((x, h) -> x.setSee(h, -1)), needsHeading((x, h) -> x.setSee(h, 2)));
        says("or other is neither -1 nor a heading", refuses(Checks.INDEX, SEE, x -> x.setSee(1, 3)),
                refuses(Checks.INDEX, SEE, x -> x.setSee(1, -2)));
        says("Throws `IllegalArgumentException` if both are the same",
                refuses(Checks.ARGUMENT, SEE, x -> x.setSee(1, 1)));
        says("Throws `IllegalStateException` if it has pages,", refuses(Checks.STATE, SPANS, x -> x.setSee(0, 2)));
        says("and other is not -1", is(SPANS, x -> x.setSee(1, -1), -1));
    }

    private static void turnSeeAlso() {
        says("Gives a heading a see also,", () -> Checks.due("steps",
                Edges.answered(SEE, x -> x.turnSeeAlso(2, 1), 1).steps(2, 1), 1));
        says("or takes it away, if it has this one.", () -> Checks.due("steps",
                Edges.answered(FOUR_ALSOS, x -> x.turnSeeAlso(0, 2), 3).steps(0, 2), -1));
        names("the heading");
        says("the heading that is told by it", () -> Checks.due("steps",
                Edges.answered(THREE, x -> x.turnSeeAlso(0, 2), 1).steps(2, 0), -1));
        says("Returns how many it has then.", () -> {
            BookIndex x = THREE.made();
            Checks.due("turnSeeAlso", x.turnSeeAlso(2, 0), 1);
            Checks.due("turnSeeAlso", x.turnSeeAlso(2, 1), 2);
            Checks.due("turnSeeAlso", x.turnSeeAlso(2, 0), 1);
            Checks.due("turnSeeAlso", x.turnSeeAlso(2, 1), 0);
        });
        says("Throws `IndexOutOfBoundsException` if there is no such heading",
                needsHeading((x, h) -> x.turnSeeAlso(h, 2)), needsHeading((x, h) -> x.turnSeeAlso(2, h)));
        says("Throws `IllegalArgumentException` if both are the same",
                refuses(Checks.ARGUMENT, FOUR_ALSOS, x -> x.turnSeeAlso(0, 0)));
        says("Throws `IllegalStateException` if it has 4 others",
                refuses(Checks.STATE, FOUR_ALSOS, x -> x.turnSeeAlso(0, 5)),
                () -> Edges.answered(FOUR_ALSOS, x -> x.turnSeeAlso(0, 4), 3));
    }

    private static void putIn() {
        says("Puts pages into the book, ahead of a page:", does(SPANS, x -> x.putIn(9, 2), 102, 0, "4-6 11-11"));
        says("this one and all behind it have numbers that are so much greater then.",
                does(SPANS, x -> x.putIn(4, 5), 105, 0, "9-11 14-14"),
                does(SPANS, x -> x.putIn(7, 5), 105, 0, "4-6 14-14"));
        says("Spans that have this page, and one ahead of it, get so much longer.",
                does(SPANS, x -> x.putIn(6, 10), 110, 0, "4-16 19-19"),
                does(SPANS, x -> x.putIn(6, 10), 110, 1, "16-19"),
                does(SPANS, x -> x.putIn(10, 10), 110, 1, "6-9"));
        names("the page;");
        says("one more than the last one to put them at the end",
                does(THREE.then(Edges.pages(2, 99, 100)), x -> x.putIn(101, 3), 103, 2, "99-100"));
        says("how many pages", does(SPANS, x -> x.putIn(1, 1), 101, 1, "7-10"),
                does(SPANS, x -> x.putIn(1, 100), 200, 1, "106-109"));
        says("Returns how many pages the book has then.", does(Edges.book(57).then(SPANS), x -> x.putIn(2, 9), 66, 1,
                "15-18"));
        says("Throws `IllegalArgumentException` if page is not 1 to the pages of the book and 1,",
                refuses(Checks.ARGUMENT, SPANS, x -> x.putIn(0, 1)),
                refuses(Checks.ARGUMENT, SPANS, x -> x.putIn(102, 1)),
                refuses(Checks.ARGUMENT, SPANS.then(Edges.book(50)), x -> x.putIn(52, 1)));
        says("or many is not 1 to 100", refuses(Checks.ARGUMENT, SPANS, x -> x.putIn(4, 0)),
                refuses(Checks.ARGUMENT, SPANS, x -> x.putIn(4, 101)));
        says("Throws `IllegalStateException` if it would have more than 300",
                refuses(Checks.STATE, SPANS.then(Edges.book(230)), x -> x.putIn(5, 71)),
                does(SPANS.then(Edges.book(230)), x -> x.putIn(5, 70), 300, 0, "4-76 79-79"));
    }

    private static void takeOut() {
        says("Takes a page out of the book:", () -> Checks.due("bookPages",
                Edges.answered(SPANS, x -> x.takeOut(100), 0).bookPages(), 99));
        says("those behind it have a number 1 less then.", does(SPANS, x -> x.takeOut(3), 0, 0, "3-5 8-8"));
        says("Spans lose this page,", does(SPANS, x -> x.takeOut(5), 1, 0, "4-5 8-8"));
        says("and are gone, if they have no other one;", does(SPANS, x -> x.takeOut(9), 2, 0, "4-6"),
                does(THREE.then(Edges.pages(1, 100, 100)), x -> x.takeOut(100), 1, 1, ""));
        says("spans that touch then become one.",
                does(SPANS.then(x -> x.takeOut(7)), x -> x.takeOut(7), 1, 0, "4-7"),
                does(THREE.then(Edges.pages(0, 1, 1)).then(Edges.pages(0, 3, 3)), x -> x.takeOut(2), 0, 0, "1-2"));
        names("the page");
        says("Returns how many headings were on it.",
                does(SPANS, x -> x.takeOut(6), 2, 1, "6-8"), does(SPANS, x -> x.takeOut(7), 1, 1, "6-8"),
                does(SPANS, x -> x.takeOut(10), 0, 1, "6-9"));
        says("Throws `IllegalArgumentException` if page is not 1 to the pages of the book",
                needsPage((x, page) -> x.takeOut(page)));
        says("Throws `IllegalStateException` if the book has one page",
                refuses(Checks.STATE, SPANS.then(Edges.book(1)), x -> x.takeOut(1)),
                () -> Edges.answered(SPANS.then(Edges.book(2)), x -> x.takeOut(1), 0));
    }

    private static void whatThereIs() {
        says("Returns how many pages the book has.", is(Edges.book(1), BookIndex::bookPages, 1),
                is(Edges.book(300), BookIndex::bookPages, 300));
        says("Returns how many headings there are.", is(THREE, BookIndex::headings, 3),
                is(ALL, BookIndex::headings, 24));
        names("a heading");
        says("Returns how many spans it has.", is(SPANS, x -> x.spansOf(0), 2), is(SPANS, x -> x.spansOf(2), 0));
        says("Throws `IndexOutOfBoundsException` if there is no such heading", needsHeading(BookIndex::spansOf));
        names("a heading");
        says("one of its spans, from 0 on", is(SPANS, x -> x.startOf(0, 0), 4));
        says("Returns its first page.", is(SPANS, x -> x.startOf(0, 1), 9), is(EIGHT, x -> x.startOf(0, 7), 71));
        says("Throws `IndexOutOfBoundsException` if there is no such heading or span",
                needsHeading((x, h) -> x.startOf(h, 0)), refuses(Checks.INDEX, SPANS, x -> x.startOf(0, 2)),
                refuses(Checks.INDEX, SPANS, x -> x.startOf(0, -1)),
                refuses(Checks.INDEX, SPANS, x -> x.startOf(2, 0)));
        names("a heading");
        says("one of its spans, from 0 on", is(SPANS, x -> x.endOf(0, 0), 6));
        says("Returns its last page.", is(SPANS, x -> x.endOf(0, 1), 9), is(EIGHT, x -> x.endOf(0, 7), 72));
        says("Throws `IndexOutOfBoundsException` if there is no such heading or span",
                needsHeading((x, h) -> x.endOf(h, 0)), refuses(Checks.INDEX, SPANS, x -> x.endOf(0, 2)),
                refuses(Checks.INDEX, SPANS, x -> x.endOf(0, -1)), refuses(Checks.INDEX, SPANS, x -> x.endOf(2, 0)));
        names("a heading");
        says("Returns on how many pages it is.", is(SPANS, x -> x.pagesOf(0), 4), is(SPANS, x -> x.pagesOf(2), 0));
        says("Throws `IndexOutOfBoundsException` if there is no such heading", needsHeading(BookIndex::pagesOf));
        names("a heading");
        says("Returns the heading told by its see;", is(SEE, x -> x.seeOf(1), 2), is(WAYS, x -> x.seeOf(0), 1));
        says("-1 for none.", is(SEE, x -> x.seeOf(0), -1));
        says("Throws `IndexOutOfBoundsException` if there is no such heading", needsHeading(BookIndex::seeOf));
        names("a heading");
        says("Returns how many see alsos it has.", is(FOUR_ALSOS, x -> x.seeAlsosOf(0), 4),
                is(SEE, x -> x.seeAlsosOf(1), 0));
        says("Throws `IndexOutOfBoundsException` if there is no such heading", needsHeading(BookIndex::seeAlsosOf));
    }

    private static void pages() {
        names("a heading");
        names("a page");
        says("Returns whether it is on this page.", is(SPANS, x -> x.isOn(0, 6), true),
                is(SPANS, x -> x.isOn(0, 7), false),
                is(SPANS, x -> x.isOn(0, 3), false), is(SPANS, x -> x.isOn(0, 9), true));
        says("Throws `IndexOutOfBoundsException` if there is no such heading", needsHeading((x, h) -> x.isOn(h, 1)));
        says("Throws `IllegalArgumentException` if page is not 1 to the pages of the book",
                needsPage((x, page) -> x.isOn(0, page)));
        names("a page");
        says("Returns how many headings are on it.", is(SPANS, x -> x.headingsOn(9), 2),
                is(SPANS, x -> x.headingsOn(5), 1), is(SPANS, x -> x.headingsOn(100), 0));
        says("Throws `IllegalArgumentException` if page is not 1 to the pages of the book",
                needsPage((x, page) -> x.headingsOn(page)));
        says("Returns on how many pages no heading is.", is(SPANS.then(Edges.book(12)), BookIndex::barePages, 6),
                is(SPANS.then(Edges.pages(2, 1, 99)), BookIndex::barePages, 1));
        says("Returns the page with the most headings,",
                is(SPANS.then(Edges.pages(2, 9, 20)), BookIndex::fullestPage, 9));
        says("of several the smallest one.", is(SPANS, BookIndex::fullestPage, 6),
                is(THREE, BookIndex::fullestPage, 1));
    }

    private static void whereOneIsLed() {
        names("a heading");
        says("Returns the heading at which following its see ends,", is(WAYS, x -> x.leadsTo(0), 2));
        says("itself, if it has none;", is(WAYS, x -> x.leadsTo(2), 2), is(WAYS, x -> x.leadsTo(6), 6));
        says("-1 if it does not end.", is(WAYS, x -> x.leadsTo(4), -1), is(WAYS, x -> x.leadsTo(5), -1));
        says("Throws `IndexOutOfBoundsException` if there is no such heading", needsHeading(BookIndex::leadsTo));
        says("Returns how many headings have a see that does not end,",
                is(WAYS.then(Edges.pages(2, 1, 1)), BookIndex::vainSees, 3));
        says("or ends at a heading without pages.", is(WAYS, BookIndex::vainSees, 5));
        names("a heading");
        names("a heading");
        says("Returns the fewest steps by which one comes from the one to the other one;",
                is(WAYS, x -> x.steps(0, 6), 3), is(WAYS.then(Edges.also(0, 2)), x -> x.steps(0, 6), 2));
        says("-1 if one does not.", is(WAYS, x -> x.steps(6, 0), -1), is(WAYS, x -> x.steps(0, 3), -1));
        says("Throws `IndexOutOfBoundsException` if there is no such heading", needsHeading((x, h) -> x.steps(h, 0)),
                needsHeading((x, h) -> x.steps(0, h)));
        names("a heading");
        says("Returns to how many headings one comes from it,", is(WAYS, x -> x.reachOf(0), 4),
                is(WAYS, x -> x.reachOf(5), 3));
        says("itself counted.", is(WAYS, x -> x.reachOf(6), 1), is(WAYS, x -> x.reachOf(3), 2));
        says("Throws `IndexOutOfBoundsException` if there is no such heading", needsHeading(BookIndex::reachOf));
        names("a heading");
        says("Returns whether some steps, one at least, lead from it to itself.", is(WAYS, x -> x.isInRing(3), true),
                is(WAYS, x -> x.isInRing(5), false), is(WAYS, x -> x.isInRing(6), false));
        says("Throws `IndexOutOfBoundsException` if there is no such heading", needsHeading(BookIndex::isInRing));
        says("Returns how many headings no step of another one leads to.", is(WAYS, BookIndex::unled, 2),
                is(FOUR_ALSOS, BookIndex::unled, 2));
    }

    private static void whatWouldBe() {
        names("a heading");
        says("how many pages", is(SPANS, x -> x.spansWithGap(0, 0), 2));
        says("Returns how many spans it would have, if those with so many pages or fewer between them were one",
                is(SPANS, x -> x.spansWithGap(0, 1), 2), is(SPANS, x -> x.spansWithGap(0, 2), 1),
                is(SPANS, x -> x.spansWithGap(0, 3), 1), is(EIGHT, x -> x.spansWithGap(0, 7), 8),
                is(EIGHT, x -> x.spansWithGap(0, 8), 1));
        says("(nothing is changed).", does(SPANS, x -> x.spansWithGap(0, 100), 1, 0, "4-6 9-9"));
        says("Throws `IndexOutOfBoundsException` if there is no such heading",
                needsHeading((x, h) -> x.spansWithGap(h, 1)));
        says("Throws `IllegalArgumentException` if gap is not 0 to 100",
                refuses(Checks.ARGUMENT, SPANS, x -> x.spansWithGap(0, -1)),
                refuses(Checks.ARGUMENT, SPANS, x -> x.spansWithGap(0, 101)));
        names("a heading");
        names("a heading");
        says("Returns on how many pages both are.", is(SPANS, x -> x.commonPages(0, 1), 2),
                is(SPANS, x -> x.commonPages(1, 0), 2), is(SPANS, x -> x.commonPages(0, 0), 4),
                is(SPANS, x -> x.commonPages(0, 2), 0));
        says("Throws `IndexOutOfBoundsException` if there is no such heading",
                needsHeading((x, h) -> x.commonPages(h, 0)), needsHeading((x, h) -> x.commonPages(0, h)));
        names("a heading");
        says("Returns the other heading with which it has the most pages in common,",
                is(SPANS, x -> x.nearest(0), 1), is(SPANS.then(Edges.pages(2, 6, 8)), x -> x.nearest(1), 2));
        says("of several the smallest number;", is(SPANS.then(Edges.pages(2, 7, 8)), x -> x.nearest(1), 0));
        says("-1 if it has none with any", is(SPANS, x -> x.nearest(2), -1),
                is(THREE.then(Edges.pages(1, 5, 6)).then(Edges.pages(2, 7, 8)), x -> x.nearest(1), -1));
        says("(nothing is changed).", does(SPANS, x -> x.nearest(0), 1, 0, "4-6 9-9"));
        says("Throws `IndexOutOfBoundsException` if there is no such heading", needsHeading(BookIndex::nearest));
        names("a heading");
        names("a heading");
        says("Returns how many spans one heading would have that is on all pages of both,",
                is(SPANS, x -> x.spansTogether(0, 1), 1), is(SPANS, x -> x.spansTogether(0, 2), 2),
                is(SPANS, x -> x.spansTogether(0, 0), 2));
        says("8 or more as well", is(EIGHT.then(Edges.pages(1, 4, 4)).then(Edges.pages(1, 6, 6)),
                x -> x.spansTogether(0, 1), 10), is(EIGHT, x -> x.spansTogether(1, 0), 8));
        says("(nothing is changed).", does(SPANS, x -> x.spansTogether(0, 1), 1, 0, "4-6 9-9"));
        says("Throws `IndexOutOfBoundsException` if there is no such heading",
                needsHeading((x, h) -> x.spansTogether(h, 0)), needsHeading((x, h) -> x.spansTogether(0, h)));
    }

    private static void meanAndDigest() {
        says("Returns the mean number of pages of headings that have some;", is(SPANS, BookIndex::meanPages, 4.0),
                is(SPANS.then(Edges.pages(2, 1, 1)), BookIndex::meanPages, 3.0),
                is(SPANS.then(Edges.pages(1, 10, 10)), BookIndex::meanPages, 4.5));
        says("0 without any.", is(NONE, BookIndex::meanPages, 0.0), is(SEE, BookIndex::meanPages, 0.0));
        says("Computes a checksum. A number d starts with 2113; for each of the following numbers x, d becomes"
                + " d * 31 + x, which wraps around as a 64-bit integer (whether something is so counts 1 or 0):"
                + " bookPages(), headings(), barePages(), fullestPage(), vainSees(), unled();",
                is(NONE, BookIndex::digest, Edges.checksum(100, 0, 100, 1, 0, 0)),
                is(Edges.book(9), BookIndex::digest, Edges.checksum(9, 0, 9, 1, 0, 0)));
        says("then for each heading spansOf(), pagesOf(), seeOf(), seeAlsosOf(), leadsTo(), reachOf(), isInRing(),"
                + " nearest(),", is(SEE, BookIndex::digest, Edges.checksum(100, 3, 100, 1, 1, 2,
                        0, 0, -1, 0, 0, 1, 0, -1, 0, 0, 2, 0, 2, 2, 0, -1, 0, 0, -1, 0, 2, 1, 0, -1)));
        says("and for each span of it startOf(), endOf().", is(SPANS, BookIndex::digest,
                Edges.checksum(100, 3, 94, 6, 0, 3, 2, 4, -1, 0, 0, 1, 0, 1, 4, 6, 9, 9,
                        1, 4, -1, 0, 1, 1, 0, 0, 6, 9, 0, 0, -1, 0, 2, 1, 0, -1)));
        says("Returns d.", is(SPANS.then(Edges.also(0, 1)).then(Edges.also(1, 0)), BookIndex::digest,
                Edges.checksum(100, 3, 94, 6, 0, 1, 2, 4, -1, 1, 0, 2, 1, 1, 4, 6, 9, 9,
                        1, 4, -1, 1, 1, 2, 1, 0, 6, 9, 0, 0, -1, 0, 2, 1, 0, -1)));
    }

    private static void notPromised() {
        names("How the state is held inside the object is free, as are the speed of each call, the text of toString"
                + " and the behaviour of equals and hashCode.");
        names("Use of one object from several threads at once is not promised to be safe.");
        names("Nothing is promised beyond the answers and state changes described above, and nothing about an object"
                + " after its 512th call.");
        passMarks();
        Checks.due("what the document says behind all that is quoted", document.substring(at), "");
    }

    public static void main(String[] args) throws IOException {
        document = Files.readString(DOCUMENT);
        source = Files.readString(SOURCE);
        whatItIs();
        termsAtFirst();
        termsOfWhatThereIs();
        termsOfWays();
        termsOfSections();
        newObjectAndHeading();
        addPages();
        takePages();
        setSee();
        turnSeeAlso();
        putIn();
        takeOut();
        whatThereIs();
        pages();
        whereOneIsLed();
        whatWouldBe();
        meanAndDigest();
        notPromised();
        Edges.close("DocumentTest");
    }
}
