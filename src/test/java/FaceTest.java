import java.io.IOException;
import java.lang.reflect.Field;
import java.lang.reflect.Method;
import java.lang.reflect.Modifier;
import java.nio.file.Files;
import java.nio.file.Path;
import java.util.HashSet;
import java.util.Map;
import java.util.Set;
import java.util.TreeSet;
import java.util.regex.Pattern;

/** The public face as the document has it, and what LANGUAGE.md rules out, as far as the text shows it. */
public final class FaceTest {
    private static final String[] METHODS = {
        "boolean at(int,int) Index", "boolean got(int,int) Index", "boolean loose(int,int,int) Index Argument",
        "boolean put(int,int,boolean) Index", "boolean skip(int,int,boolean) Index", "boolean way(int,boolean) Argument",
        "int begin()", "int bit(int,int) Index Argument", "int context(int,int) Index", "int copies()",
        "int feed(int) Argument Unsupported", "int pass(int) Argument Unsupported", "int read()",
        "int row(int,int) Index", "int tell()", "int told(int)", "void clear()",
    };
    private static final Map<Class<?>, String> SHORT = Map.of(IndexOutOfBoundsException.class, "Index",
        IllegalArgumentException.class, "Argument", UnsupportedOperationException.class, "Unsupported");
    private static final String[] RULED_OUT = {
        "^import ", "^package ", "\\bcatch\\b", "\\btry\\b", "\\bfinally\\b", "->", "::", "\\bassert\\b",
        "\\bsynchronized\\b", "Exact\\(", "\\bSystem\\.(in|out|err|nano|current)", "\\bstatic \\{", "while \\(true\\)",
        "\\bprotected\\b", "\\bextends\\b", "\\bThread\\b", "\\bRandom\\b",
    };

    private FaceTest() {
    }

    public static void main(String[] args) throws IOException {
        face();
        String text = Files.readString(Path.of("src/main/java/GenericRegions.java"));
        for (String rule : RULED_OUT) {
            boolean found = Pattern.compile(rule, Pattern.MULTILINE).matcher(text).find();
            Check.due("the text has " + rule, found, false);
        }
        sizes();
        Check.end();
    }

    private static void face() {
        Class<?> c = GenericRegions.class;
        Check.due("public and final", c.getModifiers(), Modifier.PUBLIC | Modifier.FINAL);
        Set<String> names = new HashSet<>();
        Set<String> shown = new TreeSet<>();
        for (Method method : c.getDeclaredMethods()) {
            if (!Modifier.isPrivate(method.getModifiers())) {
                shown.add(text(method));
                names.add(method.getName());
            }
        }
        Check.due("methods", shown.toString(), new TreeSet<>(Set.of(METHODS)).toString());
        for (Method method : c.getDeclaredMethods()) {
            boolean hides = Modifier.isPrivate(method.getModifiers()) && names.contains(method.getName());
            Check.due("private " + method.getName(), hides, false);
        }
        Set<String> fields = new TreeSet<>();
        for (Field field : c.getDeclaredFields()) {
            if (!Modifier.isPrivate(field.getModifiers())) {
                fields.add(field.getName());
            }
        }
        Check.due("fields", fields.toString(), "[FAX, NONE, OPEN]");
        Check.due("constructors", c.getDeclaredConstructors().length, 1);
    }

    private static String text(Method method) {
        StringBuilder all = new StringBuilder(method.getReturnType().getName());
        all.append(' ').append(method.getName()).append('(');
        for (Class<?> type : method.getParameterTypes()) {
            all.append(all.charAt(all.length() - 1) == '(' ? "" : ",").append(type.getName());
        }
        all.append(')');
        for (Class<?> type : method.getExceptionTypes()) {
            all.append(' ').append(SHORT.get(type));
        }
        return all.toString();
    }

    private static void sizes() {
        Class<?>[] inside = GenericRegions.class.getDeclaredClasses();
        Check.due("at most twelve classes", inside.length + 1 <= 12, true);
        for (Class<?> c : inside) {
            Check.due(c.getName() + " is static", Modifier.isStatic(c.getModifiers()), true);
            int fields = 0;
            for (Field field : c.getDeclaredFields()) {
                boolean isStatic = Modifier.isStatic(field.getModifiers());
                fields += isStatic ? 0 : 1;
                Check.due(field.getName() + " is final", !isStatic || Modifier.isFinal(field.getModifiers()), true);
            }
            Check.due(c.getName() + " has at most twenty fields", fields <= 20, true);
        }
    }
}
