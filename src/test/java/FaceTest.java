import java.io.IOException;
import java.lang.reflect.Constructor;
import java.lang.reflect.Field;
import java.lang.reflect.Method;
import java.lang.reflect.Modifier;
import java.nio.file.Files;
import java.nio.file.Path;
import java.util.Arrays;
import java.util.List;
import java.util.Set;
import java.util.TreeSet;
import java.util.regex.Matcher;
import java.util.regex.Pattern;
import java.util.stream.Collectors;

/** The public face is that of the document, and the source keeps to rules of LANGUAGE.md that can be seen in it. */
public final class FaceTest {
    private static final Path SOURCE = Path.of("src/main/java/TypeDesigner.java");
    private static final Path DOCUMENT = Path.of("../shared/DOC.md");

    private static final Checks CHECKS = new Checks();

    public static void main(String[] args) throws IOException {
        CHECKS.begin("the face of the document, and rule 1 of LANGUAGE.md");
        faceIsThatOfTheDocument();
        nothingElseIsVisible();
        CHECKS.begin("rules 1, 5 and 11 of LANGUAGE.md");
        nestedClassesAreOwn();
        CHECKS.begin("rules 1, 2, 4, 5, 6, 9, 10, 11 and 13 of LANGUAGE.md");
        sourceKeepsToTheLanguage(withoutTextsAndComments(Files.readString(SOURCE)));
        CHECKS.end();
    }

    private static String signature(Method method) {
        String parameters = Arrays.stream(method.getParameterTypes()).map(Class::getSimpleName)
                .collect(Collectors.joining(", "));
        String thrown = Arrays.stream(method.getExceptionTypes()).map(Class::getSimpleName)
                .collect(Collectors.joining(", "));
        return method.getReturnType().getSimpleName() + " " + method.getName() + "(" + parameters + ") " + thrown;
    }

    private static Set<String> dueSignatures() throws IOException {
        Set<String> due = new TreeSet<>();
        Matcher lines = Pattern.compile("(?m)^    public (\\w+ \\w+)\\(([^)]*)\\)(?: throws ([^;]*))?;$")
                .matcher(Files.readString(DOCUMENT));
        while (lines.find()) {
            String parameters = Arrays.stream(lines.group(2).split(", ")).map(part -> part.split(" ")[0])
                    .collect(Collectors.joining(", "));
            due.add(lines.group(1) + "(" + parameters + ") " + (lines.group(3) == null ? "" : lines.group(3)));
        }
        return due;
    }

    private static void faceIsThatOfTheDocument() throws IOException {
        Set<String> got = Arrays.stream(TypeDesigner.class.getDeclaredMethods())
                .filter(method -> Modifier.isPublic(method.getModifiers())).map(FaceTest::signature)
                .collect(Collectors.toCollection(TreeSet::new));
        Set<String> due = dueSignatures();
        CHECKS.isDue("40 methods in the document", true, due.size() == 40);
        CHECKS.isDue("the public methods " + got + " are those of the document " + due, true, got.equals(due));
        Constructor<?>[] constructors = TypeDesigner.class.getDeclaredConstructors();
        CHECKS.isDue("one public constructor without parameters", true, constructors.length == 1
                && constructors[0].getParameterCount() == 0 && Modifier.isPublic(constructors[0].getModifiers()));
    }

    private static void nothingElseIsVisible() {
        Class<?> face = TypeDesigner.class;
        CHECKS.isDue("public and final", true,
                Modifier.isPublic(face.getModifiers()) && Modifier.isFinal(face.getModifiers()));
        for (Field field : face.getDeclaredFields()) {
            boolean isPrivate = Modifier.isPrivate(field.getModifiers());
            CHECKS.isDue("the field " + field.getName() + " is private", true, isPrivate);
        }
        for (Method method : face.getDeclaredMethods()) {
            boolean isOpen = Modifier.isPublic(method.getModifiers()) || Modifier.isPrivate(method.getModifiers());
            CHECKS.isDue("the method " + method.getName() + " is public or private", true, isOpen);
        }
    }

    private static void nestedClassesAreOwn() {
        Set<String> open = Arrays.stream(TypeDesigner.class.getDeclaredMethods())
                .filter(method -> Modifier.isPublic(method.getModifiers())).map(Method::getName)
                .collect(Collectors.toSet());
        Class<?>[] nested = TypeDesigner.class.getDeclaredClasses();
        CHECKS.isDue("at most some twelve classes", true, nested.length + 1 <= 14);
        for (Class<?> own : nested) {
            CHECKS.isDue(own.getName() + " is static and neither public nor protected", true,
                    !Modifier.isPublic(own.getModifiers()) && !Modifier.isProtected(own.getModifiers())
                    && Modifier.isStatic(own.getModifiers()));
            membersAreOwn(own, open);
        }
        membersAreOwn(TypeDesigner.class, open);
    }

    private static void membersAreOwn(Class<?> own, Set<String> open) {
        int fields = 0;
        for (Field field : own.getDeclaredFields()) {
            if (Modifier.isStatic(field.getModifiers())) {
                CHECKS.isDue("the static field " + field + " is final", true, Modifier.isFinal(field.getModifiers()));
            } else {
                fields++;
            }
        }
        CHECKS.isDue("at most some twenty fields in " + own.getName(), true, fields <= 22);
        for (Method method : own.getDeclaredMethods()) {
            if (Modifier.isPrivate(method.getModifiers())) {
                CHECKS.isDue("the name of " + method + " is no public one", false, open.contains(method.getName()));
            }
            CHECKS.isDue("at most seven parameters in " + method, true, method.getParameterCount() <= 7);
        }
    }

    private static String withoutTextsAndComments(String source) {
        return source.replaceAll("(?s)/\\*.*?\\*/", "").replaceAll("//[^\n]*", "")
                .replaceAll("\"[^\"\n]*\"", "TEXT").replaceAll("'[^'\n]'", "SIGN");
    }

    private static int count(String source, String pattern) {
        Matcher matcher = Pattern.compile(pattern).matcher(source);
        int count = 0;
        while (matcher.find()) {
            count++;
        }
        return count;
    }

    private static void sourceKeepsToTheLanguage(String source) {
        List<String> forbidden = List.of("\\bfinally\\b", "->", "::", "\\bassert\\b", "\\bsynchronized\\b",
                "\\bpackage\\b", "\\bprotected\\b", "static \\{", "Exact\\(", "\\bSystem\\.(?!arraycopy)",
                "\\bThread\\b", "\\bhashCode\\b", "TEXT \\+", "\\+ TEXT", "\\bwhile \\(true\\)", "\\bfor \\(;;\\)");
        for (String word : forbidden) {
            CHECKS.isDue("uses of " + word, 0, count(source, word));
        }
        CHECKS.isDue("imports of what the rules do not list", 0,
                count(source, "import (?!java\\.util\\.(NoSuchElementException|ArrayList|List|Arrays|Iterator);)"));
        CHECKS.isDue("what the machine throws, or a class above it", 0, count(source, "\\b(ArrayIndexOutOfBounds"
                + "|StringIndexOutOfBounds|NullPointer|ClassCast|NegativeArraySize|ArrayStore)Exception\\b"
                + "|\\bThrowable\\b|Error\\b|catch \\((Runtime)?Exception "));
        CHECKS.isDue("throws without a new exception and a written text", 0,
                count(source, "\\bthrow\\b(?! new \\w+Exception\\((TEXT)?\\);)"));
        methodsAreShort(source);
    }

    private static void methodsAreShort(String source) {
        String[] lines = source.split("\n");
        int begin = -1;
        for (int i = 0; i < lines.length; i++) {
            if (begin < 0 && lines[i].matches(" {4}(?: {4})?\\S.*\\) ?(?:throws .*)?\\{")) {
                begin = i;
            }
            if (begin >= 0 && lines[i].equals(lines[begin].replaceAll("\\S.*", "") + "}")) {
                CHECKS.isDue("a method of at most some sixty lines: " + lines[begin].trim(), true, i - begin <= 66);
                begin = -1;
            }
        }
    }
}
