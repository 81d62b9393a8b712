import java.io.IOException;
import java.lang.reflect.Method;
import java.nio.file.Files;
import java.nio.file.Path;
import java.util.regex.Matcher;
import java.util.regex.Pattern;

/** The example of README.md, call by call as it stands there, each with the answer that is written behind it. */
public final class ReadmeTest {
    private static final Pattern EXAMPLE = Pattern.compile("```java\n(.*?)```", Pattern.DOTALL);
    private static final Pattern MADE = Pattern.compile("^GenericRegions x = new GenericRegions\\((.*?)\\);");
    private static final Pattern CALL = Pattern.compile("^x\\.(\\w+)\\((.*?)\\); +// ([^:]+)(:.*)?$");

    private ReadmeTest() {
    }

    public static void main(String[] args) throws IOException, ReflectiveOperationException {
        Matcher example = EXAMPLE.matcher(Files.readString(Path.of("README.md")));
        Check.due("README.md has an example", example.find(), true);
        String[] lines = example.group(1).split("\n");
        Matcher made = MADE.matcher(lines[0]);
        Check.due("the example makes an object", made.find(), true);
        Object[] sizes = values(made.group(1));
        GenericRegions x = new GenericRegions((Integer) sizes[0], (Integer) sizes[1], (Integer) sizes[2]);
        for (int i = 1; i < lines.length; i++) {
            Matcher call = CALL.matcher(lines[i]);
            boolean isCall = call.find();
            Check.due("a call with an answer: " + lines[i], isCall, true);
            if (isCall) {
                Check.due(lines[i], answer(x, call.group(1), values(call.group(2))), call.group(3).trim());
            }
        }
        Check.end();
    }

    private static String answer(GenericRegions x, String name, Object[] arguments) throws ReflectiveOperationException {
        for (Method method : GenericRegions.class.getMethods()) {
            if (method.getName().equals(name)) {
                return String.valueOf(method.invoke(x, arguments));
            }
        }
        return "no such method";
    }

    private static Object[] values(String list) {
        String[] texts = list.isEmpty() ? new String[0] : list.split(", ");
        Object[] values = new Object[texts.length];
        for (int i = 0; i < texts.length; i++) {
            values[i] = value(texts[i]);
        }
        return values;
    }

    private static Object value(String text) {
        if (text.equals("true") || text.equals("false")) {
            return Boolean.valueOf(text);
        }
        return text.startsWith("0b") ? Integer.valueOf(text.substring(2), 2) : Integer.valueOf(text);
    }
}
