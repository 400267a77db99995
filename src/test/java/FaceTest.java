import java.io.IOException;
import java.lang.reflect.Constructor;
import java.lang.reflect.Field;
import java.lang.reflect.Method;
import java.lang.reflect.Modifier;
import java.nio.file.Files;
import java.nio.file.Path;
import java.util.Arrays;
import java.util.Set;
import java.util.TreeSet;
import java.util.regex.Matcher;
import java.util.regex.Pattern;

/** The public face of the document, and rules of LANGUAGE.md that a program can look after. */
public final class FaceTest {
    private static final String SOURCE = "src/main/java/MourningTulips.java";
    private static final String[] CONSTANTS = {"BAD -1", "NOT -2", "FULL -3", "NONE -4", "NULL -11", "CAST -12",
        "INDEX -13", "SIZE -14"};
    private static final String[] METHODS = {"house(int)", "bulb(int,int,int)", "of(int,int)", "at(int,int)",
        "owes(int,int)", "type(int)", "read()", "count(int)", "years(int)", "sell(int,int)", "lend(int,int,int)",
        "pay(int,int,int)", "drift(int)", "undo()", "seed(int)", "price(int,int)", "then(int)", "goods(int,int)",
        "falls(int)", "alone()", "sells(int,int)", "gift(int)", "forgive(int)", "settle(int)", "easter(int,int,int)",
        "image()", "restore()", "whose(int,int,int,int)", "gone(int,int,int,int,int,int)", "film(int,int,int,int,int)",
        "sheet(int,int,int)", "drop(int)", "item(int,int,int,long)", "copy(int,int,int,int,int)"};
    private static final String[] FORBIDDEN = {"->", "::", "synchronized", "assert ", "finally", "Exact(", "throw ",
        "catch", "System.out", "Random", "nanoTime", "currentTime", "Thread", "static {", "@", "instanceof"};

    private static final Set<String> LIBRARY = Set.of("Math.max", "Math.min", "Integer.bitCount", "Arrays.fill",
        "System.arraycopy");

    private static int wrong = 0;

    private static void check(boolean well, String what) {
        if (!well) {
            wrong++;
            System.out.println(what);
        }
    }

    private static void face() throws IllegalAccessException {
        Class<?> face = MourningTulips.class;
        check(Modifier.isPublic(face.getModifiers()) && Modifier.isFinal(face.getModifiers()), "not public and final");
        Set<String> fields = new TreeSet<>();
        for (Field f : face.getDeclaredFields()) {
            if (!Modifier.isPrivate(f.getModifiers())) {
                check(Modifier.isPublic(f.getModifiers()) && Modifier.isStatic(f.getModifiers())
                    && Modifier.isFinal(f.getModifiers()), "no constant: " + f);
                fields.add(f.getName() + " " + f.getInt(null));
            }
            check(!Modifier.isStatic(f.getModifiers()) || Modifier.isFinal(f.getModifiers()), "static state: " + f);
        }
        check(fields.equals(new TreeSet<>(Arrays.asList(CONSTANTS))), "constants are " + fields);
        Set<String> methods = new TreeSet<>();
        for (Method m : face.getDeclaredMethods()) {
            if (!Modifier.isPrivate(m.getModifiers()) && !m.isSynthetic()) {
                check(Modifier.isPublic(m.getModifiers()) && m.getReturnType() == int.class, "not as told: " + m);
                methods.add(head(m));
            }
        }
        check(methods.equals(new TreeSet<>(Arrays.asList(METHODS))), "methods are " + methods);
        Constructor<?>[] makers = face.getDeclaredConstructors();
        check(makers.length == 1 && makers[0].getParameterCount() == 0 && Modifier.isPublic(makers[0].getModifiers()),
            "not the one public constructor");
    }

    private static String head(Method m) {
        StringBuilder head = new StringBuilder(m.getName()).append('(');
        for (Class<?> p : m.getParameterTypes()) {
            head.append(head.charAt(head.length() - 1) == '(' ? "" : ",").append(p.getName());
        }
        return head.append(')').toString();
    }

    private static void inside() {
        Set<String> names = new TreeSet<>();
        for (String m : METHODS) {
            names.add(m.substring(0, m.indexOf('(')));
        }
        for (Method m : MourningTulips.class.getDeclaredMethods()) {
            check(Modifier.isPublic(m.getModifiers()) || !names.contains(m.getName()), "a public name: " + m);
        }
        for (Class<?> c : MourningTulips.class.getDeclaredClasses()) {
            check(Modifier.isStatic(c.getModifiers()) && !Modifier.isPublic(c.getModifiers()), "not inside: " + c);
            for (Method m : c.getDeclaredMethods()) {
                check(!names.contains(m.getName()), "a public name: " + m);
                check(m.getParameterCount() <= 7, "too many parameters: " + m);
            }
            check(c.getDeclaredFields().length <= 20, "too many fields: " + c);
        }
    }

    private static void source() throws IOException {
        String text = Files.readString(Path.of(SOURCE));
        for (int k = 0; k < text.length(); k++) {
            check(text.charAt(k) < 128, "a sign above 127 at " + k);
        }
        String code = text.replaceAll("(?s)/\\*.*?\\*/", "").replaceAll("//[^\n]*", "").replaceAll("'@'", "");
        for (String word : FORBIDDEN) {
            check(!code.contains(word), "in the source: " + word);
        }
        check(code.replace("import java.util.Arrays;", "").indexOf("import") < 0, "another import");
        Matcher uses = Pattern.compile("\\b(Integer|Long|Math|Arrays|System|String|List|Object)\\.\\w+").matcher(code);
        while (uses.find()) {
            check(LIBRARY.contains(uses.group()), "of the library: " + uses.group());
        }
        check(code.split("\\b(class|enum|interface|record) \\w+ ").length - 1 + bodies(code) <= 12, "too many classes");
        methodsAreShort(text.split("\n"));
    }

    /** Constants of an enum with bodies of their own. */
    private static int bodies(String code) {
        return code.split("[A-Z]\\('.'\\) \\{").length - 1;
    }

    /** A method's head and end stand at the same depth. */
    private static void methodsAreShort(String[] lines) {
        for (int k = 0; k < lines.length; k++) {
            String line = lines[k];
            if (line.matches(" +[a-zA-Z][^=]*\\) \\{") && !line.matches(" +(\\} else )?(if|for|while|switch) .*")) {
                String end = line.substring(0, line.indexOf(line.trim())) + "}";
                int last = k;
                while (last < lines.length && !lines[last].equals(end)) {
                    last++;
                }
                check(last - k <= 60, "a long method at line " + (k + 1));
            }
        }
    }

    public static void main(String[] args) throws Exception {
        face();
        inside();
        source();
        System.out.println(wrong == 0 ? "the face is as told" : wrong + " things are not as told");
        if (wrong != 0) {
            System.exit(1);
        }
    }
}
