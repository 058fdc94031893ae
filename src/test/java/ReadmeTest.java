import java.io.IOException;
import java.lang.reflect.Method;
import java.nio.file.Files;
import java.nio.file.Path;
import java.util.Arrays;
import java.util.regex.Matcher;
import java.util.regex.Pattern;

/** The calls that README.md shows, and the answers that it tells behind them. */
public final class ReadmeTest {
    private static final Check CHECK = new Check("ReadmeTest");
    private static final Pattern CALL =
        Pattern.compile("forms\\.(\\w+)\\(([-\\d, ]*)\\);(?: +// (-?\\d+|true|false)\\b.*)?");
    private static final Pattern TEXT =
        Pattern.compile("for \\(char c : \"(.*)\"\\.toCharArray\\(\\)\\) forms\\.unit\\(c\\);");

    private static PageForms forms = null;

    public static void main(String[] args) throws IOException, ReflectiveOperationException {
        CHECK.by("README.md says how to use the class");
        boolean inside = false;
        for (String line : Files.readAllLines(Path.of("README.md"))) {
            if (line.startsWith("```")) {
                inside = line.equals("```java");
            } else if (inside) {
                follow(line);
            }
        }
        CHECK.due("README.md makes an object", forms != null, true);
        CHECK.end();
    }

    private static void follow(String line) throws ReflectiveOperationException {
        Matcher call = CALL.matcher(line);
        Matcher text = TEXT.matcher(line);
        if (line.equals("PageForms forms = new PageForms();")) {
            forms = new PageForms();
        } else if (text.matches()) {
            for (char c : text.group(1).toCharArray()) {
                CHECK.due("unit(" + c + ")", forms.unit(c), true);
            }
        } else if (call.matches()) {
            dueCall(line, call.group(1), call.group(2), call.group(3));
        } else {
            boolean onlyTells = line.isEmpty() || line.startsWith("//");
            CHECK.due("'" + line + "' is understood", onlyTells, true);
        }
    }

    private static void dueCall(String line, String name, String values, String told)
        throws ReflectiveOperationException {
        String[] texts = values.isEmpty() ? new String[0] : values.split(", ");
        Class<?>[] types = new Class<?>[texts.length];
        Arrays.fill(types, int.class);
        Object[] numbers = Arrays.stream(texts).map(Integer::valueOf).toArray();
        Method method = PageForms.class.getMethod(name, types);
        Object got = method.invoke(forms, numbers);
        CHECK.due(line, String.valueOf(got), String.valueOf(told));
    }
}
