import java.io.IOException;
import java.lang.reflect.InvocationTargetException;
import java.lang.reflect.Method;
import java.lang.reflect.Modifier;
import java.nio.file.Files;
import java.nio.file.Path;
import java.util.List;
import java.util.regex.Matcher;
import java.util.regex.Pattern;

/** README.md: its examples answer what stands beside them, each call of the face and each exception is named. */
final class ReadmeTest {
    private static final Check C = new Check("ReadmeTest");
    private static final String NEW = "MirrorBridge x = new MirrorBridge();";
    private static final Pattern WRITE =
            Pattern.compile("for \\(char c : \"(.*)\"\\.toCharArray\\(\\)\\) x\\.append\\(c\\);");
    /** A call and what is due: the comment up to its first comma or colon. */
    private static final Pattern CALL = Pattern.compile("x\\.(\\w+)\\((.*?)\\); +// ([^,:]+).*");

    public static void main(String[] args) throws IOException, IllegalAccessException {
        List<String> lines = Files.readAllLines(Path.of("README.md"));
        int examples = 0;
        boolean inside = false;
        MirrorBridge x = null;
        for (String line : lines) {
            if (line.equals("```java")) {
                inside = true;
                examples++;
                x = null;
            } else if (line.equals("```")) {
                inside = false;
            } else if (inside && line.equals(NEW)) {
                x = new MirrorBridge();
            } else if (inside) {
                makes(line, x);
            }
        }
        C.due("examples in README.md", examples > 0 ? 1 : 0, 1);
        namesAll(String.join("\n", lines));
        C.end();
    }

    private static void makes(String line, MirrorBridge x) throws IllegalAccessException {
        Matcher write = WRITE.matcher(line);
        Matcher call = CALL.matcher(line);
        if (x != null && write.matches()) {
            for (char c : write.group(1).toCharArray()) {
                x.append(c);
            }
        } else if (x != null && call.matches()) {
            C.same(line, answer(x, call.group(1), call.group(2)), call.group(3));
        } else {
            C.same("a line of an example", line, "a call of an object that has been made, and its answer");
        }
    }

    /** What the call answers, as README.md writes it: a number, or "throws" and the name of the exception. */
    private static String answer(MirrorBridge x, String name, String arguments) throws IllegalAccessException {
        Method m = method(name);
        if (m == null) {
            return "no such call";
        }
        String[] words = arguments.isEmpty() ? new String[0] : arguments.split(", ");
        Class<?>[] types = m.getParameterTypes();
        if (words.length != types.length) {
            return "not so many arguments";
        }
        Object[] values = new Object[types.length];
        for (int i = 0; i < types.length; i++) {
            values[i] = argument(types[i], words[i]);
        }
        try {
            return String.valueOf(m.invoke(x, values));
        } catch (InvocationTargetException e) {
            return "throws " + e.getCause().getClass().getSimpleName();
        }
    }

    private static Object argument(Class<?> type, String word) {
        if (type == boolean.class) {
            return word.equals("true");
        }
        if (type == long.class) {
            return Long.valueOf(word.replace("L", ""));
        }
        return Integer.valueOf(word);
    }

    private static Method method(String name) {
        for (Method m : MirrorBridge.class.getMethods()) {
            if (m.getDeclaringClass() == MirrorBridge.class && m.getName().equals(name)) {
                return m;
            }
        }
        return null;
    }

    private static void namesAll(String readme) {
        for (Method m : MirrorBridge.class.getDeclaredMethods()) {
            if (!Modifier.isPublic(m.getModifiers())) {
                continue;
            }
            names(readme, "`" + m.getName() + "(");
            for (Class<?> thrown : m.getExceptionTypes()) {
                names(readme, "| `" + thrown.getSimpleName() + "`");
                if (thrown == IllegalStateException.class) {
                    Pattern row = Pattern.compile("\\| `IllegalStateException` of [^|]*`" + m.getName() + "`");
                    C.due("README.md tells what IllegalStateException of " + m.getName() + " means",
                            row.matcher(readme).find() ? 1 : 0, 1);
                }
            }
        }
    }

    private static void names(String readme, String words) {
        C.due("README.md has " + words, readme.contains(words) ? 1 : 0, 1);
    }
}
