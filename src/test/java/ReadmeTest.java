import java.io.IOException;
import java.lang.reflect.InvocationTargetException;
import java.lang.reflect.Method;
import java.nio.file.Files;
import java.nio.file.Path;
import java.util.HashSet;
import java.util.List;
import java.util.Set;
import java.util.regex.Matcher;
import java.util.regex.Pattern;

/** The calls that README.md shows answer what stands behind them; it shows each call of the face. */
final class ReadmeTest {

    private static final Pattern SHOWN = Pattern.compile("works\\.(\\w+)\\((.*)\\); +// ([\\w.-]+).*");

    private ReadmeTest() {
    }

    static void run(Check check) {
        check.promise(0);
        CubefoldWorks works = Build.works();
        Set<String> shown = new HashSet<>();
        for (String line : lines()) {
            Matcher call = SHOWN.matcher(line);
            if (call.matches()) {
                shown.add(call.group(1));
                check.due("README: " + line, call.group(3), () -> answer(works, call.group(1), call.group(2)));
            }
        }
        for (Method method : CubefoldWorks.class.getDeclaredMethods()) {
            if (java.lang.reflect.Modifier.isPublic(method.getModifiers())) {
                check.due("README shows " + method.getName(), true, () -> shown.contains(method.getName()));
            }
        }
    }

    private static List<String> lines() {
        try {
            return Files.readAllLines(Path.of("README.md"));
        } catch (IOException e) {
            throw new IllegalStateException(e);
        }
    }

    /** The answer as a text, or the name of the exception. */
    private static String answer(CubefoldWorks works, String name, String arguments) {
        String[] texts = arguments.isEmpty() ? new String[0] : arguments.split(", ");
        for (Method method : CubefoldWorks.class.getMethods()) {
            if (method.getName().equals(name) && method.getParameterCount() == texts.length) {
                Object[] values = new Object[texts.length];
                for (int index = 0; index < texts.length; index++) {
                    values[index] = value(texts[index]);
                }
                return told(works, method, values);
            }
        }
        return "no such call";
    }

    private static Object value(String text) {
        if (text.startsWith("'")) {
            return text.charAt(1);
        }
        if (text.equals("true") || text.equals("false")) {
            return text.equals("true");
        }
        return Integer.parseInt(text);
    }

    private static String told(CubefoldWorks works, Method method, Object[] values) {
        try {
            return String.valueOf(method.invoke(works, values));
        } catch (InvocationTargetException e) {
            return e.getCause().getClass().getSimpleName();
        } catch (IllegalAccessException e) {
            throw new IllegalStateException(e);
        }
    }
}
