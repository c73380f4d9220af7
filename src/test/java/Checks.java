/** What the tests of the project share: checks that print what is not as due. */
final class Checks {

    interface Call {
        Object answer();
    }

    static final Class<?> STATE = IllegalStateException.class;
    static final Class<?> ARGUMENT = IllegalArgumentException.class;
    static final Class<?> INDEX = IndexOutOfBoundsException.class;

    private static int wrong = 0;
    private static int made = 0;
    private static String part = "";

    private Checks() {
    }

    static void begin(String name) {
        part = name;
    }

    static void due(String call, Object got, Object want) {
        made++;
        if (!want.equals(got)) {
            wrong++;
            System.out.println(part + ": " + call + " answered " + got + ", due is " + want);
        }
    }

    /**
     * Checks that a call throws an exception of just this class, and that the index is as before, by its digest alone:
     * an object answers as promised for 512 calls only.
     */
    static void dueThrow(BookIndex index, String call, Class<?> want, Call made) {
        long before = index.digest();
        due(call, answerOf(made), want.getName());
        due("the digest after " + call, index.digest(), before);
    }

    /** The answer of a call, or the name of the class of what it throws. */
    static Object answerOf(Call call) {
        try {
            return call.answer();
        } catch (RuntimeException thrown) {
            return thrown.getClass().getName();
        }
    }

    /** An index with so many headings. */
    static BookIndex withHeadings(int many) {
        BookIndex index = new BookIndex();
        for (int i = 0; i < many; i++) {
            index.addHeading();
        }
        return index;
    }

    /** The spans of a heading, as in "1-2 11-11". */
    static String spansOf(BookIndex index, int heading) {
        StringBuilder spans = new StringBuilder();
        for (int s = 0; s < index.spansOf(heading); s++) {
            spans.append(s == 0 ? "" : " ");
            spans.append(index.startOf(heading, s)).append('-').append(index.endOf(heading, s));
        }
        return spans.toString();
    }

    static void close(String name) {
        System.out.println(name + ": " + made + " checks, " + wrong + " not as due");
        if (wrong != 0) {
            System.exit(1);
        }
    }
}
