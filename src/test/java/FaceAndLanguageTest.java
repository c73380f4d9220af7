import java.io.IOException;
import java.lang.reflect.Constructor;
import java.lang.reflect.Field;
import java.lang.reflect.Method;
import java.lang.reflect.Modifier;
import java.nio.file.Files;
import java.nio.file.Path;
import java.util.ArrayList;
import java.util.List;
import java.util.TreeSet;
import java.util.regex.Pattern;

/** Compares the face with the document's, and the source with those rules of LANGUAGE.md that a text search can tell. */
public final class FaceAndLanguageTest {

    private static final Path DOCUMENT = Path.of("../shared/DOC.md");
    private static final Path SOURCE = Path.of("src/main/java/BookIndex.java");

    // A piece of code for each rule that forbids it.
    private static final String[] FORBIDDEN = {
        "\\bimport\\b", "\\bpackage\\b", "->", "::", "\\b(try|catch|finally)\\b", "\\bsynchronized\\b",
        "\\bassert\\b", "\\w+Exact\\(", "static \\{", "\"\\s*\\+|\\+\\s*\"", "\\b(equals|hashCode|toString)\\b",
        "\\bwhile \\(true\\)", "for \\(;;\\)", "\\bfloat\\b", "NaN", "\\bThread\\b", "System\\.(?!arraycopy)",
    };

    private FaceAndLanguageTest() {
    }

    private static TreeSet<String> faceOfDocument() throws IOException {
        TreeSet<String> face = new TreeSet<>();
        for (String line : Files.readAllLines(DOCUMENT)) {
            if (line.startsWith("    public ")) {
                face.add(line.strip());
            }
        }
        return face;
    }

    private static String signature(String start, Class<?>[] taken, String[] names, Class<?>[] thrown) {
        List<String> parameters = new ArrayList<>();
        for (int i = 0; i < taken.length; i++) {
            parameters.add(taken[i].getSimpleName() + names[i]);
        }
        List<String> exceptions = new ArrayList<>();
        for (Class<?> each : thrown) {
            exceptions.add(each.getSimpleName());
        }
        String throwing = exceptions.isEmpty() ? "" : " throws " + String.join(", ", exceptions);
        return start + "(" + String.join(", ", parameters) + ")" + throwing + ";";
    }

    private static String withoutParameterNames(String line) {
        return line.replaceAll("\\bint \\w+(?=[,)])", "int");
    }

    private static void faceDue() throws IOException {
        TreeSet<String> want = new TreeSet<>();
        for (String line : faceOfDocument()) {
            want.add(withoutParameterNames(line));
        }
        TreeSet<String> got = new TreeSet<>();
        String[] noNames = {"", "", "", "", "", "", ""};
        TreeSet<String> publicNames = new TreeSet<>();
        for (Method each : BookIndex.class.getDeclaredMethods()) {
            if (!Modifier.isPrivate(each.getModifiers())) {
                String start = Modifier.toString(each.getModifiers()) + " " + each.getReturnType().getSimpleName();
                got.add(signature(start + " " + each.getName(), each.getParameterTypes(), noNames,
                        each.getExceptionTypes()));
                publicNames.add(each.getName());
            }
        }
        for (Constructor<?> each : BookIndex.class.getDeclaredConstructors()) {
            got.add(signature("public BookIndex", each.getParameterTypes(), noNames, each.getExceptionTypes()));
        }
        want.removeIf(line -> line.startsWith("public final class"));
        Checks.due("the face", got.toString(), want.toString());
        Checks.due("the class", Modifier.toString(BookIndex.class.getModifiers()), "public final");
        privateNamesDue(BookIndex.class, publicNames);
        for (Class<?> inside : BookIndex.class.getDeclaredClasses()) {
            Checks.due(inside + " is static", Modifier.isStatic(inside.getModifiers()), true);
            Checks.due(inside + " is public", Modifier.isPublic(inside.getModifiers()), false);
            privateNamesDue(inside, publicNames);
        }
    }

    private static void privateNamesDue(Class<?> type, TreeSet<String> publicNames) {
        for (Method each : type.getDeclaredMethods()) {
            boolean ofFace = type == BookIndex.class && Modifier.isPublic(each.getModifiers());
            Checks.due("the name " + each.getName() + " is of the face too",
                    !ofFace && publicNames.contains(each.getName()), false);
            Checks.due("parameters of " + each.getName(), each.getParameterCount() <= 7, true);
        }
        int fields = 0;
        for (Field each : type.getDeclaredFields()) {
            Checks.due("field " + each.getName() + " is private", Modifier.isPrivate(each.getModifiers()), true);
            boolean constant = Modifier.isStatic(each.getModifiers());
            Checks.due("field " + each.getName() + " is final if static",
                    !constant || Modifier.isFinal(each.getModifiers()), true);
            fields += constant ? 0 : 1;
        }
        Checks.due("fields of " + type + " are 20 at most", fields <= 20, true);
    }

    private static String withoutComments(String source) {
        return source.replaceAll("(?s)/\\*.*?\\*/", "").replaceAll("//[^\n]*", "");
    }

    private static void sourceDue() throws IOException {
        String source = withoutComments(Files.readString(SOURCE));
        for (String each : FORBIDDEN) {
            Checks.due("the source has " + each, Pattern.compile(each).matcher(source).find(), false);
        }
        int length = 0;
        for (String line : source.split("\n")) {
            boolean makes = line.contains("new ") && !line.strip().startsWith("throw new ");
            Checks.due("made outside a constructor: " + line.strip(),
                    !makes || line.matches("\\s*(private final int\\[\\] )?\\w+(\\[i\\])? = new (Spans|int)\\b.*;"), true);
            length = line.isBlank() ? 0 : length + 1;
            Checks.due("a method's length at " + line.strip(), length <= 60, true);
        }
    }

    public static void main(String[] args) throws IOException {
        Checks.begin("face");
        faceDue();
        Checks.begin("language");
        sourceDue();
        Checks.close("FaceAndLanguageTest");
    }
}
