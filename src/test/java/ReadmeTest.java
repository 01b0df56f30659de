import java.lang.reflect.Method;
import java.lang.reflect.Modifier;
import java.nio.file.Files;
import java.nio.file.Path;
import java.util.regex.Matcher;
import java.util.regex.Pattern;

/** What README.md shows must be so: the answers of its example, and a word on every call of the face. */
public final class ReadmeTest {
    private static final Pattern TEXT = Pattern.compile("String text = \"([^\"]*)\";");
    private static final Pattern ANSWERED = Pattern.compile("heirs\\.(\\w+\\([-\\d, ]*\\)); +// (-?\\d+): ");
    private static final Pattern CALL = Pattern.compile("heirs\\.\\w+\\([-\\d, ]*\\);");
    private static final int CALLS_SHOWN = 18;

    private static final Due due = new Due("ReadmeTest");

    private static int count(Matcher found) {
        int times = 0;
        while (found.find()) {
            times++;
        }
        return times;
    }

    private static void example(String readme) {
        Matcher text = TEXT.matcher(readme);
        due.isTrue("a text is shown", text.find());
        Scene scene = new Scene("feed " + text.group(1));
        due.is("calls shown", count(CALL.matcher(readme)), CALLS_SHOWN);
        due.is("calls shown with an answer", count(ANSWERED.matcher(readme)), CALLS_SHOWN);
        Matcher answered = ANSWERED.matcher(readme);
        while (answered.find()) {
            due.is(answered.group(1), scene.call(answered.group(1)), Long.parseLong(answered.group(2)));
        }
    }

    private static void face(String readme) {
        for (Method m : ParrotHeirs.class.getDeclaredMethods()) {
            if (Modifier.isPublic(m.getModifiers())) {
                due.isTrue(m.getName() + " is told of", readme.contains("`" + m.getName() + "`"));
            }
        }
    }

    public static void main(String[] args) throws Exception {
        String readme = Files.readString(Path.of("README.md"));
        example(readme);
        face(readme);
        due.close();
    }
}
