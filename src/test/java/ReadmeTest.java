import java.lang.reflect.Method;
import java.nio.file.Files;
import java.nio.file.Path;
import java.util.HashMap;
import java.util.Map;
import java.util.regex.Matcher;
import java.util.regex.Pattern;

/** Makes the calls of README.md, one behind the other, and asks for the answers that stand behind them. */
public final class ReadmeTest {
    private static final String MAKING = "NarrowingKernel k = new NarrowingKernel();";
    private static final Pattern CALL = Pattern.compile("(?:int (\\w+) = )?k\\.(\\w+)\\((.*)\\); +// (-?\\d+)\\b.*");
    private static final Map<String, Integer> names = new HashMap<>();
    private static NarrowingKernel k;
    private static int wrong = 0;
    private static int made = 0;

    private static void tell(String line, String what) {
        wrong++;
        System.out.println("README.md: " + line + ": " + what);
    }

    private static Object valueOf(String word) {
        if (word.equals("true") || word.equals("false")) {
            return Boolean.valueOf(word);
        }
        return names.containsKey(word) ? names.get(word) : Integer.valueOf(word);
    }

    private static int call(String name, String arguments) throws ReflectiveOperationException {
        String[] words = arguments.isEmpty() ? new String[0] : arguments.split(", ");
        Object[] values = new Object[words.length];
        for (int i = 0; i < words.length; i++) {
            values[i] = valueOf(words[i]);
        }
        for (Method method : NarrowingKernel.class.getMethods()) {
            if (method.getName().equals(name)) {
                return (Integer) method.invoke(k, values);
            }
        }
        throw new NoSuchMethodException(name);
    }

    private static void make(String line) throws ReflectiveOperationException {
        if (line.equals(MAKING)) {
            k = new NarrowingKernel();
            return;
        }
        Matcher found = CALL.matcher(line);
        if (!found.matches()) {
            tell(line, "is no call with its answer");
            return;
        }
        int answer = call(found.group(2), found.group(3));
        made++;
        if (found.group(1) != null) {
            names.put(found.group(1), answer);
        }
        if (answer != Integer.parseInt(found.group(4))) {
            tell(line, "answered " + answer);
        }
    }

    public static void main(String[] args) throws Exception {
        names.put("NONE", NarrowingKernel.NONE);
        boolean isJava = false;
        for (String line : Files.readAllLines(Path.of("README.md"))) {
            if (line.startsWith("```")) {
                isJava = line.equals("```java");
            } else if (isJava) {
                make(line);
            }
        }
        if (made == 0) {
            tell("its calls", "there are none");
        }
        System.out.println("ReadmeTest: " + (made - wrong) + " of " + made + " answers are as due");
        if (wrong != 0) {
            System.exit(1);
        }
    }
}
