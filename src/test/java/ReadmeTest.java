import java.io.IOException;
import java.lang.reflect.Method;
import java.lang.reflect.Modifier;
import java.nio.file.Files;
import java.nio.file.Path;
import java.util.List;
import java.util.regex.Matcher;
import java.util.regex.Pattern;

/** What README.md says of the calls is so: its example answers as told, and its table names them all. */
public final class ReadmeTest {

    /** x.name(arguments); // the answer, or throws and the exception's name; what is said of it. */
    private static final Pattern CALL = Pattern.compile(
            "x\\.(\\w+)\\((.*?)\\);\\s+// (?:throws (\\w+)|\"([^\"]*)\"|(-?[\\w.]+)).*");

    private static final Due due = new Due();

    public static void main(String[] args) throws IOException {
        List<String> lines = Files.readAllLines(Path.of("README.md"));
        exampleAnswersAsTold(lines);
        tableNamesEachCall(lines);
        due.end();
    }

    private static void exampleAnswersAsTold(List<String> lines) {
        due.part("the example");
        int first = lines.indexOf("Chipfield x = new Chipfield();");
        due.is("it begins", true, first > 0);
        Chipfield x = new Chipfield();
        for (int k = first + 1; k < lines.size() && !lines.get(k).equals("```"); k++) {
            Matcher call = CALL.matcher(lines.get(k));
            if (call.matches()) {
                due.is(lines.get(k), told(call), Calls.outcome(x, call.group(1), given(call.group(2))));
            } else {
                due.report("no call with its answer: " + lines.get(k));
            }
        }
    }

    private static String told(Matcher call) {
        if (call.group(3) != null) {
            return "java.lang." + call.group(3);
        }
        return call.group(4) != null ? call.group(4) : call.group(5);
    }

    private static Object[] given(String arguments) {
        if (arguments.isEmpty()) {
            return new Object[0];
        }
        String[] texts = arguments.split(", ");
        Object[] given = new Object[texts.length];
        for (int k = 0; k < texts.length; k++) {
            boolean isYesOrNo = texts[k].equals("true") || texts[k].equals("false");
            given[k] = isYesOrNo ? (Object) Boolean.valueOf(texts[k]) : (Object) Integer.valueOf(texts[k]);
        }
        return given;
    }

    private static void tableNamesEachCall(List<String> lines) {
        due.part("the table");
        String table = "";
        for (String line : lines) {
            table += line.startsWith("| ") ? line : "";
        }
        for (Method method : Chipfield.class.getDeclaredMethods()) {
            if (Modifier.isPublic(method.getModifiers())) {
                due.is(method.getName() + " is named", true, table.contains("`" + method.getName() + "`"));
            }
        }
    }
}
