import java.io.IOException;
import java.lang.reflect.Constructor;
import java.lang.reflect.Field;
import java.lang.reflect.Method;
import java.lang.reflect.Modifier;
import java.nio.file.Files;
import java.nio.file.Path;
import java.util.Arrays;
import java.util.List;
import java.util.Set;
import java.util.TreeSet;
import java.util.regex.Pattern;
import java.util.stream.Collectors;

/** The face is the document's, and the source keeps to what of LANGUAGE.md can be seen in its text. */
public final class FaceTest {

    private static final String INDEX = " throws IndexOutOfBoundsException";
    private static final String ARGUMENT = " throws IllegalArgumentException";
    private static final String INDEX_ARGUMENT = INDEX + ", IllegalArgumentException";
    private static final String INDEX_STATE = INDEX + ", IllegalStateException";

    private static final List<String> FACE = List.of(
            "int write(int, long)" + INDEX_ARGUMENT, "int stick(int, int, int, int)" + INDEX_ARGUMENT,
            "int mad(int, int)" + INDEX_ARGUMENT, "int ray(int, int, int)" + INDEX_ARGUMENT,
            "int erase(int, boolean)" + INDEX_STATE, "int replace(int)" + INDEX_STATE, "int limit(int)" + ARGUMENT,
            "int fetch(int)" + INDEX, "int patrol(int)" + ARGUMENT, "long load(int)" + INDEX,
            "int store(int, long)" + INDEX_ARGUMENT, "int flush()", "int call()", "int times(int, int)" + ARGUMENT,
            "int power(int)" + ARGUMENT, "int symbol(long, int)" + INDEX_ARGUMENT,
            "int fooled(int, int, int, int, int)" + INDEX_ARGUMENT, "int seen(int, int)" + INDEX,
            "int sum(int, int)" + INDEX_ARGUMENT, "int mended(int)" + INDEX, "long data(int)" + INDEX,
            "int ofChip(int, int)" + INDEX_ARGUMENT, "int stored(int, int)" + INDEX,
            "int ofFrame(int, int)" + INDEX_ARGUMENT, "long held(int)" + INDEX, "int bank(int)" + ARGUMENT,
            "String row(int)" + INDEX, "int wouldMend(int, int)" + INDEX_ARGUMENT, "int spare(int)" + INDEX,
            "int wouldLose(int, int)" + INDEX_ARGUMENT, "double health()", "boolean isSound()", "long digest()");

    /** What LANGUAGE.md allows of what is ruled out otherwise. */
    private static final Pattern ALLOWED = Pattern.compile("import java\\.util\\.(ArrayList|Arrays|Iterator|List"
            + "|NoSuchElementException);|System\\.arraycopy|(case [^;]*|default) ->");

    private static final Pattern RULED_OUT = Pattern.compile("\\b(import|package|finally|synchronized|assert|volatile"
            + "|transient|native|strictfp|System|Thread|Random|protected|java)\\b|->|::|Exact\\(|\\+ \"|\" \\+|getMessage");

    private static final Due due = new Due();

    public static void main(String[] args) throws IOException {
        faceIsTheDocuments();
        nothingElseIsOpen();
        sourceKeepsToTheLanguage();
        due.end();
    }

    private static void faceIsTheDocuments() {
        due.part("face");
        due.is("public and final", Modifier.PUBLIC | Modifier.FINAL, Chipfield.class.getModifiers());
        Set<String> open = new TreeSet<>();
        for (Method method : Chipfield.class.getDeclaredMethods()) {
            if (!Modifier.isPrivate(method.getModifiers())) {
                due.is(method.getName() + " is public alone", Modifier.PUBLIC, method.getModifiers());
                open.add(method.getReturnType().getSimpleName() + " " + method.getName()
                        + Arrays.stream(method.getParameterTypes()).map(Class::getSimpleName)
                                .collect(Collectors.joining(", ", "(", ")")) + thrown(method));
            }
        }
        due.is("methods", new TreeSet<>(FACE), open);
        Constructor<?>[] made = Chipfield.class.getDeclaredConstructors();
        due.is("constructors", 1, made.length);
        due.is("constructor", "public Chipfield()", made[0].toString());
    }

    private static String thrown(Method method) {
        String names = Arrays.stream(method.getExceptionTypes()).map(Class::getSimpleName)
                .collect(Collectors.joining(", "));
        return names.isEmpty() ? "" : " throws " + names;
    }

    private static void nothingElseIsOpen() {
        due.part("closed");
        for (Field field : Chipfield.class.getDeclaredFields()) {
            boolean isPrivate = Modifier.isPrivate(field.getModifiers());
            due.is(field.getName() + " is private", true, field.isSynthetic() || isPrivate);
        }
        checkOwnMembers(Chipfield.class);
        Set<String> taken = Arrays.stream(Chipfield.class.getMethods()).map(Method::getName)
                .collect(Collectors.toSet());
        checkPrivateNames(Chipfield.class, taken);
        Class<?>[] inside = Chipfield.class.getDeclaredClasses();
        due.is("some twelve classes at most", true, inside.length < 14);
        for (Class<?> own : inside) {
            int kept = own.getModifiers() & (Modifier.PUBLIC | Modifier.PROTECTED);
            due.is(own.getName() + " is private or package-visible", 0, kept);
            checkPrivateNames(own, taken);
            checkOwnMembers(own);
        }
    }

    /** Rules 5 and 11: no static state, some twenty fields in a class, seven parameters in a method. */
    private static void checkOwnMembers(Class<?> owner) {
        int fields = 0;
        for (Field field : owner.getDeclaredFields()) {
            boolean isStatic = Modifier.isStatic(field.getModifiers());
            boolean isChanging = !Modifier.isFinal(field.getModifiers());
            due.is(field.getName() + " is static state", false, isChanging && isStatic);
            fields += isStatic ? 0 : 1;
        }
        due.is("some twenty fields at most in " + owner.getName(), true, fields < 24);
        for (Method method : owner.getDeclaredMethods()) {
            due.is(method.getName() + " takes at most seven", true, method.getParameterCount() <= 7);
        }
    }

    private static void checkPrivateNames(Class<?> owner, Set<String> taken) {
        for (Method method : owner.getDeclaredMethods()) {
            if (Modifier.isPrivate(method.getModifiers())) {
                due.is(method.getName() + " has a public one's name", false, taken.contains(method.getName()));
            }
        }
    }

    private static void sourceKeepsToTheLanguage() throws IOException {
        due.part("source");
        List<String> lines = Files.readAllLines(Path.of("src/main/java/Chipfield.java"));
        boolean isInComment = false;
        for (int k = 0; k < lines.size(); k++) {
            String line = lines.get(k).strip();
            isInComment = isInComment || line.startsWith("/*");
            String code = ALLOWED.matcher(line.replaceFirst("//.*", "")).replaceAll("");
            if (!isInComment && RULED_OUT.matcher(code).find()) {
                due.report("line " + (k + 1) + " is ruled out: " + line);
            }
            isInComment = isInComment && !line.endsWith("*/");
        }
    }
}
