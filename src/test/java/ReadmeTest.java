import java.io.IOException;
import java.lang.reflect.InvocationTargetException;
import java.lang.reflect.Method;
import java.lang.reflect.Modifier;
import java.nio.file.Files;
import java.nio.file.Path;
import java.util.HashMap;
import java.util.Map;
import java.util.regex.Matcher;
import java.util.regex.Pattern;

/** The example of README.md answers what stands behind each call; and README.md names every call of the face. */
public final class ReadmeTest {
    private static final Pattern ROW =
        Pattern.compile("(?:int (\\w+) = )?x\\.(\\w+)\\(([^)]*)\\);\\s+// (-?\\d+)(?::.*)?");

    private static final Map<String, Integer> NAMED = new HashMap<>();
    private static int wrong = 0;

    private static void tell(String what) {
        wrong++;
        System.out.println(what);
    }

    private static int worth(String argument) {
        return NAMED.containsKey(argument) ? NAMED.get(argument) : Integer.parseInt(argument);
    }

    private static Method find(String name) {
        for (Method m : MourningTulips.class.getDeclaredMethods()) {
            if (Modifier.isPublic(m.getModifiers()) && m.getName().equals(name)) {
                return m;
            }
        }
        return null;
    }

    private static void run(MourningTulips x, String line) throws IllegalAccessException, InvocationTargetException {
        Matcher row = ROW.matcher(line);
        Method call = row.matches() ? find(row.group(2)) : null;
        if (call == null) {
            tell("no call with its answer: " + line);
            return;
        }
        String[] told = row.group(3).isEmpty() ? new String[0] : row.group(3).split(", ");
        Object[] arguments = new Object[told.length];
        for (int k = 0; k < told.length; k++) {
            arguments[k] = worth(told[k]);
        }
        int answer = (int) call.invoke(x, arguments);
        if (answer != Integer.parseInt(row.group(4))) {
            tell(line + " answered " + answer);
        }
        if (row.group(1) != null) {
            NAMED.put(row.group(1), answer);
        }
    }

    private static void example(String page) throws IllegalAccessException, InvocationTargetException {
        Matcher block = Pattern.compile("(?s)```java\n(.*?)```").matcher(page);
        if (!block.find()) {
            tell("no example");
            return;
        }
        String[] lines = block.group(1).split("\n");
        if (lines.length < 2 || !lines[0].equals("MourningTulips x = new MourningTulips();")) {
            tell("the example makes no object");
        }
        MourningTulips x = new MourningTulips();
        for (int k = 1; k < lines.length; k++) {
            run(x, lines[k]);
        }
    }

    private static void names(String page) {
        for (Method m : MourningTulips.class.getDeclaredMethods()) {
            if (Modifier.isPublic(m.getModifiers()) && !page.contains("`" + m.getName() + "`")) {
                tell("not named: " + m.getName());
            }
        }
    }

    public static void main(String[] args) throws IOException, IllegalAccessException, InvocationTargetException {
        String page = Files.readString(Path.of("README.md"));
        example(page);
        names(page);
        System.out.println(wrong == 0 ? "the page is as due" : wrong + " things are not as due");
        if (wrong != 0) {
            System.exit(1);
        }
    }
}
