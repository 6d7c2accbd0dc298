import java.io.IOException;
import java.lang.reflect.Constructor;
import java.lang.reflect.Field;
import java.lang.reflect.Method;
import java.lang.reflect.Modifier;
import java.nio.file.Files;
import java.nio.file.Path;
import java.util.Arrays;
import java.util.Comparator;
import java.util.List;
import java.util.Set;
import java.util.TreeSet;
import java.util.regex.Pattern;
import java.util.stream.Collectors;

/** The face is the document's, and the source keeps to what of LANGUAGE.md can be seen in its text. */
public final class FaceTest {

    private static final String OUT_OF_BOUNDS = " throws IndexOutOfBoundsException";
    private static final String ARGUMENT = " throws IllegalArgumentException";
    private static final String BOTH = " throws IndexOutOfBoundsException, IllegalArgumentException";
    private static final String STATE = " throws IndexOutOfBoundsException, IllegalStateException";

    private static final List<String> FACE = List.of(
            "int write(int, long)" + BOTH, "int stick(int, int, int, int)" + BOTH, "int mad(int, int)" + BOTH,
            "int ray(int, int, int)" + BOTH, "int erase(int, boolean)" + STATE, "int replace(int)" + STATE,
            "int limit(int)" + ARGUMENT, "int fetch(int)" + OUT_OF_BOUNDS, "int patrol(int)" + ARGUMENT,
            "long load(int)" + OUT_OF_BOUNDS, "int store(int, long)" + BOTH, "int flush()", "int call()",
            "int times(int, int)" + ARGUMENT, "int power(int)" + ARGUMENT, "int symbol(long, int)" + BOTH,
            "int fooled(int, int, int, int, int)" + BOTH, "int seen(int, int)" + OUT_OF_BOUNDS,
            "int sum(int, int)" + BOTH, "int mended(int)" + OUT_OF_BOUNDS, "long data(int)" + OUT_OF_BOUNDS,
            "int ofChip(int, int)" + BOTH, "int stored(int, int)" + OUT_OF_BOUNDS, "int ofFrame(int, int)" + BOTH,
            "long held(int)" + OUT_OF_BOUNDS, "int bank(int)" + ARGUMENT, "String row(int)" + OUT_OF_BOUNDS,
            "int wouldMend(int, int)" + BOTH, "int spare(int)" + OUT_OF_BOUNDS, "int wouldLose(int, int)" + BOTH,
            "double health()", "boolean isSound()", "long digest()");

    private static final Pattern RULED_OUT = Pattern.compile("\\b(import|package|lambda|finally|synchronized|assert"
            + "|try|catch|volatile|transient|native|strictfp|System|Thread|Random|protected)\\b|->|::|Exact\\(|\\+ \"|\" \\+");

    private static final Due due = new Due();

    public static void main(String[] args) throws IOException {
        faceIsTheDocuments();
        nothingElseIsOpen();
        sourceKeepsToTheLanguage();
        due.end();
    }

    private static void faceIsTheDocuments() {
        due.part("face");
        due.is("public and final", Modifier.PUBLIC | Modifier.FINAL, Chipfield.class.getModifiers());
        Set<String> open = new TreeSet<>();
        for (Method method : Chipfield.class.getDeclaredMethods()) {
            if (!Modifier.isPrivate(method.getModifiers())) {
                due.is(method.getName() + " is public alone", Modifier.PUBLIC, method.getModifiers());
                open.add(told(method));
            }
        }
        due.is("methods", new TreeSet<>(FACE), open);
        Constructor<?>[] made = Chipfield.class.getDeclaredConstructors();
        due.is("constructors", 1, made.length);
        due.is("constructor", "public Chipfield()", made[0].toString());
    }

    private static String told(Method method) {
        StringBuilder text = new StringBuilder(method.getReturnType().getSimpleName());
        text.append(' ').append(method.getName()).append('(').append(names(method.getParameterTypes())).append(')');
        Class<?>[] thrown = method.getExceptionTypes();
        return thrown.length == 0 ? text.toString() : text.append(" throws ").append(names(thrown)).toString();
    }

    private static String names(Class<?>[] types) {
        return Arrays.stream(types).map(Class::getSimpleName).collect(Collectors.joining(", "));
    }

    private static void nothingElseIsOpen() {
        due.part("closed");
        for (Field field : Chipfield.class.getDeclaredFields()) {
            due.is(field.getName() + " is private", true, Modifier.isPrivate(field.getModifiers()));
        }
        Set<String> taken = Arrays.stream(Chipfield.class.getMethods()).map(Method::getName)
                .collect(Collectors.toSet());
        for (Method method : Chipfield.class.getDeclaredMethods()) {
            if (Modifier.isPrivate(method.getModifiers())) {
                due.is(method.getName() + " has a public one's name", false, taken.contains(method.getName()));
            }
        }
        Class<?>[] inside = Chipfield.class.getDeclaredClasses();
        Arrays.sort(inside, Comparator.comparing(Class::getName));
        due.is("twelve classes at most", true, inside.length < 12);
        for (Class<?> own : inside) {
            due.is(own.getName() + " is private", true, Modifier.isPrivate(own.getModifiers()));
            due.is(own.getName() + " is static", true, Modifier.isStatic(own.getModifiers()));
            for (Method method : own.getDeclaredMethods()) {
                due.is(method.getName() + " has a public one's name", false, taken.contains(method.getName()));
            }
            for (Field field : own.getDeclaredFields()) {
                boolean isChanging = !Modifier.isFinal(field.getModifiers());
                due.is(field.getName() + " is static state", false,
                        isChanging && Modifier.isStatic(field.getModifiers()));
            }
        }
    }

    private static void sourceKeepsToTheLanguage() throws IOException {
        due.part("source");
        List<String> lines = Files.readAllLines(Path.of("src/main/java/Chipfield.java"));
        boolean isInComment = false;
        for (int k = 0; k < lines.size(); k++) {
            String line = lines.get(k).strip();
            isInComment = isInComment || line.startsWith("/*");
            if (!isInComment && RULED_OUT.matcher(line.replaceFirst("//.*", "")).find()) {
                due.report("line " + (k + 1) + " is ruled out: " + line);
            }
            isInComment = isInComment && !line.endsWith("*/");
        }
    }
}
