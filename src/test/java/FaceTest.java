import java.io.IOException;
import java.lang.reflect.Constructor;
import java.lang.reflect.Field;
import java.lang.reflect.Method;
import java.lang.reflect.Modifier;
import java.nio.file.Files;
import java.nio.file.Path;
import java.util.Arrays;
import java.util.List;
import java.util.Set;
import java.util.TreeSet;
import java.util.regex.Pattern;
import java.util.stream.Collectors;

/** The face is the document's, and the source keeps to what of LANGUAGE.md can be seen in its text. */
public final class FaceTest {

    private static final List<String> FACE = List.of(
            "int write(int, long)", "int stick(int, int, int, int)", "int mad(int, int)", "int ray(int, int, int)",
            "int erase(int, boolean)", "int replace(int)", "int limit(int)", "int fetch(int)", "int patrol(int)",
            "long load(int)", "int store(int, long)", "int flush()", "int call()", "int times(int, int)",
            "int power(int)", "int symbol(long, int)", "int fooled(int, int, int, int, int)", "int seen(int, int)",
            "int sum(int, int)", "int mended(int)", "long data(int)", "int ofChip(int, int)", "int stored(int, int)",
            "int ofFrame(int, int)", "long held(int)", "int bank(int)", "String row(int)", "int wouldMend(int, int)",
            "int spare(int)", "int wouldLose(int, int)", "double health()", "boolean isSound()", "long digest()");

    /** What LANGUAGE.md allows of what is ruled out otherwise. */
    private static final Pattern ALLOWED = Pattern.compile("import java\\.util\\.(ArrayList|Arrays|Iterator|List"
            + "|NoSuchElementException);|System\\.arraycopy|(case [^;]*|default) ->");

    private static final Pattern RULED_OUT = Pattern.compile("\\b(import|package|finally|synchronized|assert|volatile"
            + "|transient|native|strictfp|System|Thread|Random|protected|java)\\b|->|::|Exact\\(|\\+ \"|\" \\+|getMessage");

    private static final Due due = new Due();

    public static void main(String[] args) throws IOException {
        faceIsTheDocuments();
        nothingElseIsOpen();
        sourceKeepsToTheLanguage();
        due.end();
    }

    private static void faceIsTheDocuments() {
        due.part("face");
        due.is("public and final", Modifier.PUBLIC | Modifier.FINAL, Chipfield.class.getModifiers());
        Set<String> open = new TreeSet<>();
        for (Method method : Chipfield.class.getDeclaredMethods()) {
            if (!Modifier.isPrivate(method.getModifiers())) {
                due.is(method.getName() + " is public alone", Modifier.PUBLIC, method.getModifiers());
                open.add(method.getReturnType().getSimpleName() + " " + method.getName()
                        + Arrays.stream(method.getParameterTypes()).map(Class::getSimpleName)
                                .collect(Collectors.joining(", ", "(", ")")));
            }
        }
        due.is("methods", new TreeSet<>(FACE), open);
        Constructor<?>[] made = Chipfield.class.getDeclaredConstructors();
        due.is("constructors", 1, made.length);
        due.is("constructor", "public Chipfield()", made[0].toString());
    }

    private static void nothingElseIsOpen() {
        due.part("closed");
        for (Field field : Chipfield.class.getDeclaredFields()) {
            due.is(field.getName() + " is private", true, field.isSynthetic() || Modifier.isPrivate(field.getModifiers()));
        }
        Set<String> taken = Arrays.stream(Chipfield.class.getMethods()).map(Method::getName)
                .collect(Collectors.toSet());
        checkPrivateNames(Chipfield.class, taken);
        Class<?>[] inside = Chipfield.class.getDeclaredClasses();
        due.is("some twelve classes at most", true, inside.length < 14);
        for (Class<?> own : inside) {
            int kept = own.getModifiers() & (Modifier.PUBLIC | Modifier.PROTECTED);
            due.is(own.getName() + " is private or package-visible", 0, kept);
            checkPrivateNames(own, taken);
            for (Field field : own.getDeclaredFields()) {
                boolean isChanging = !Modifier.isFinal(field.getModifiers());
                due.is(field.getName() + " is static state", false,
                        isChanging && Modifier.isStatic(field.getModifiers()));
            }
        }
    }

    private static void checkPrivateNames(Class<?> owner, Set<String> taken) {
        for (Method method : owner.getDeclaredMethods()) {
            if (Modifier.isPrivate(method.getModifiers())) {
                due.is(method.getName() + " has a public one's name", false, taken.contains(method.getName()));
            }
        }
    }

    private static void sourceKeepsToTheLanguage() throws IOException {
        due.part("source");
        List<String> lines = Files.readAllLines(Path.of("src/main/java/Chipfield.java"));
        boolean isInComment = false;
        for (int k = 0; k < lines.size(); k++) {
            String line = lines.get(k).strip();
            isInComment = isInComment || line.startsWith("/*");
            String code = ALLOWED.matcher(line.replaceFirst("//.*", "")).replaceAll("");
            if (!isInComment && RULED_OUT.matcher(code).find()) {
                due.report("line " + (k + 1) + " is ruled out: " + line);
            }
            isInComment = isInComment && !line.endsWith("*/");
        }
    }
}
