/** What the tests of the project share: checks that print what is not as due, and a picture of an index. */
final class Checks {

    interface Call {
        Object answer();
    }

    static final Class<?> STATE = IllegalStateException.class;
    static final Class<?> ARGUMENT = IllegalArgumentException.class;
    static final Class<?> INDEX = IndexOutOfBoundsException.class;

    private static int wrong = 0;
    private static int made = 0;
    private static String part = "";

    private Checks() {
    }

    static void begin(String name) {
        part = name;
    }

    static void due(String call, Object got, Object want) {
        made++;
        if (!want.equals(got)) {
            wrong++;
            System.out.println(part + ": " + call + " answered " + got + ", due is " + want);
        }
    }

    /** Checks that a call throws an exception of just this class, and that the index is as before. */
    static void dueThrow(BookIndex index, String call, Class<?> want, Call made) {
        String before = picture(index);
        due(call, answerOf(made), want.getName());
        due("the index after " + call, picture(index), before);
    }

    /** The answer of a call, or the name of the class of what it throws. */
    static Object answerOf(Call call) {
        try {
            return call.answer();
        } catch (RuntimeException thrown) {
            return thrown.getClass().getName();
        }
    }

    /** All that an index tells of what it holds; the see alsos are told by the steps from each heading. */
    static String picture(BookIndex index) {
        StringBuilder all = new StringBuilder();
        all.append(index.bookPages()).append(" pages");
        for (int h = 0; h < index.headings(); h++) {
            all.append("; ").append(h).append(':');
            for (int s = 0; s < index.spansOf(h); s++) {
                all.append(' ').append(index.startOf(h, s)).append('-').append(index.endOf(h, s));
            }
            all.append(" see ").append(index.seeOf(h)).append(", ").append(index.seeAlsosOf(h)).append(" also, to");
            for (int other = 0; other < index.headings(); other++) {
                all.append(index.steps(h, other) == 1 ? " " + other : "");
            }
        }
        return all.append("; ").append(index.digest()).toString();
    }

    /** An index with so many headings. */
    static BookIndex withHeadings(int many) {
        BookIndex index = new BookIndex();
        for (int i = 0; i < many; i++) {
            index.addHeading();
        }
        return index;
    }

    static void close(String name) {
        System.out.println(name + ": " + made + " checks, " + wrong + " not as due");
        if (wrong != 0) {
            System.exit(1);
        }
    }
}
