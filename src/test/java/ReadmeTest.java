import java.io.IOException;
import java.lang.reflect.InvocationTargetException;
import java.lang.reflect.Method;
import java.nio.file.Files;
import java.nio.file.Path;
import java.util.ArrayList;
import java.util.List;
import java.util.regex.Matcher;
import java.util.regex.Pattern;

/** The run of calls that README.md shows: each line of it is called, and answers what stands behind it. */
public final class ReadmeTest {
    private static final String FIRST_LINE = "Formatseer seer = new Formatseer();";
    private static final Pattern CALL = Pattern.compile("seer\\.(\\w+)\\(([^()]*)\\); +// (\\S.*)");
    private static final int FEWEST_CALLS = 20;

    public static void main(String[] args) throws IOException {
        String text = Files.readString(Path.of(System.getProperty("formatseer.readme", "README.md")));
        Check.due("README.md tells how to run the tests", true, () -> text.contains("bash .ci/run"));
        Matcher blocks = Pattern.compile("(?s)```java\n(.*?)```").matcher(text);
        int runs = 0;
        while (blocks.find()) {
            run(blocks.group(1).split("\n"));
            runs++;
        }
        int shown = runs;
        Check.due("README.md shows a run of calls", true, () -> shown > 0);
        Check.end();
    }

    private static void run(String[] lines) {
        Check.due("how an object is made", FIRST_LINE, () -> lines[0]);
        Formatseer seer = new Formatseer();
        for (int line = 1; line < lines.length; line++) {
            String written = lines[line];
            Matcher call = CALL.matcher(written);
            Check.due("a call and its answer: " + written, true, call::matches);
            if (call.matches()) {
                Check.due(written, call.group(3), () -> answerOf(seer, call.group(1), argumentsOf(call.group(2))));
            }
        }
        Check.due("some calls", true, () -> lines.length > FEWEST_CALLS);
    }

    private static Object[] argumentsOf(String written) {
        List<Object> arguments = new ArrayList<>();
        for (String one : written.isEmpty() ? new String[0] : written.split(", ")) {
            if (one.matches("'.'")) {
                arguments.add(one.charAt(1));
            } else if (one.equals("true") || one.equals("false")) {
                arguments.add(one.equals("true"));
            } else {
                arguments.add(Integer.valueOf(one));
            }
        }
        return arguments.toArray();
    }

    /** The answer as it would be written in Java. */
    private static String answerOf(Formatseer seer, String name, Object[] arguments) {
        try {
            Object answer = methodOf(name).invoke(seer, arguments);
            if (answer instanceof Character) {
                return "'" + answer + "'";
            }
            return answer instanceof Float ? answer + "f" : String.valueOf(answer);
        } catch (InvocationTargetException thrown) {
            return "throws " + thrown.getCause().getClass().getSimpleName();
        } catch (IllegalAccessException closed) {
            return "cannot be called";
        }
    }

    private static Method methodOf(String name) {
        for (Method method : Formatseer.class.getMethods()) {
            if (method.getName().equals(name)) {
                return method;
            }
        }
        throw new IllegalStateException("there is no call " + name);
    }
}
