import java.io.IOException;
import java.lang.reflect.Field;
import java.lang.reflect.Method;
import java.lang.reflect.Modifier;
import java.nio.file.Files;
import java.nio.file.Path;
import java.util.ArrayList;
import java.util.HashSet;
import java.util.List;
import java.util.Set;
import java.util.regex.Matcher;
import java.util.regex.Pattern;

/** "The public face", word for word, and that nothing else of the class is seen from outside. */
public final class FaceTest {
    private static final Path DOCUMENT = Path.of("../shared/DOC.md");
    private static final Path SOURCE = Path.of("src/main/java/HouseholdMail.java");
    private static final Pattern GROUP =
        Pattern.compile("Ahead of the calls `(\\w+)`.* the interface says: (----.*)\\.");
    private static final Class<?> FACE = HouseholdMail.class;
    private static final Check check = new Check();

    public static void main(String[] args) {
        Tests.run(FaceTest.class, check);
    }

    private static String bare(String line) {
        return line.trim().replaceAll("(;| \\{)$", "");
    }

    private static void putAhead(List<String> face, String call, String comment) {
        for (int i = 0; i < face.size(); i++) {
            if (face.get(i).contains(" " + call + "(")) {
                face.add(i, comment);
                return;
            }
        }
        check.report("the document has no call " + call);
    }

    /** The face's lines, with what the interface says ahead of its groups of calls. */
    private static List<String> faceOfTheDocument() throws IOException {
        List<String> lines = Files.readAllLines(DOCUMENT);
        List<String> face = new ArrayList<>();
        for (int i = lines.indexOf("```java") + 1; i < lines.size() && !lines.get(i).equals("```"); i++) {
            if (lines.get(i).contains("public ")) {
                face.add(bare(lines.get(i)));
            }
        }
        for (String line : lines) {
            Matcher matcher = GROUP.matcher(line);
            if (matcher.matches()) {
                putAhead(face, matcher.group(1), "// " + matcher.group(2));
            }
        }
        return face;
    }

    private static List<String> faceOfTheClass() throws IOException {
        List<String> face = new ArrayList<>();
        int end = 0;
        for (String line : Files.readAllLines(SOURCE)) {
            boolean isPublic = line.trim().startsWith("public ");
            if (isPublic || line.trim().startsWith("// ----")) {
                face.add(bare(line));
            }
            end = isPublic ? face.size() : end;
        }
        return face.subList(0, end);
    }

    static void theFaceIsWordForWord() throws IOException {
        List<String> due = faceOfTheDocument();
        List<String> got = faceOfTheClass();
        check.is("the number of lines", got.size(), due.size());
        for (int i = 0; i < due.size() && i < got.size(); i++) {
            check.is("line " + i + " of the face", got.get(i), due.get(i));
        }
        check.is("the class, the constant, the constructor, 27 calls and 5 groups", due.size(), 35);
    }

    static void theClassIsFinal() {
        check.is("public", Modifier.isPublic(FACE.getModifiers()) ? 1 : 0, 1);
        check.is("final", Modifier.isFinal(FACE.getModifiers()) ? 1 : 0, 1);
        check.is("the package", FACE.getPackageName(), "");
        check.is("constructors", FACE.getDeclaredConstructors().length, 1);
        check.is("public constructors", FACE.getConstructors().length, 1);
    }

    static void noOtherMemberIsSeen() {
        for (Field field : FACE.getDeclaredFields()) {
            if (!Modifier.isPrivate(field.getModifiers()) && !field.isSynthetic()) {
                check.is("a field that is seen", field.getName(), "NONE");
            }
        }
        int calls = 0;
        for (Method method : FACE.getDeclaredMethods()) {
            if (Modifier.isPublic(method.getModifiers())) {
                calls++;
            } else if (!Modifier.isPrivate(method.getModifiers()) && !method.isSynthetic()) {
                check.report(method.getName() + " is seen");
            }
        }
        check.is("calls", calls, 27);
    }

    static void classesInsideAreNotSeen() {
        for (Class<?> inside : FACE.getDeclaredClasses()) {
            int modifiers = inside.getModifiers();
            if (Modifier.isPublic(modifiers) || Modifier.isProtected(modifiers) || !Modifier.isStatic(modifiers)) {
                check.report(inside.getName() + " is seen, or not static");
            }
        }
    }

    static void noPrivateMethodBearsAPublicName() {
        Set<String> names = new HashSet<>();
        for (Method method : FACE.getDeclaredMethods()) {
            if (Modifier.isPublic(method.getModifiers())) {
                names.add(method.getName());
            }
        }
        List<Class<?>> classes = new ArrayList<>(List.of(FACE.getDeclaredClasses()));
        classes.add(FACE);
        for (Class<?> one : classes) {
            for (Method method : one.getDeclaredMethods()) {
                if (Modifier.isPrivate(method.getModifiers()) && names.contains(method.getName())) {
                    check.report(one.getName() + " has a private method " + method.getName());
                }
            }
        }
    }
}
