import java.io.IOException;
import java.lang.reflect.InvocationTargetException;
import java.lang.reflect.Method;
import java.lang.reflect.Modifier;
import java.nio.file.Files;
import java.nio.file.Path;
import java.util.NoSuchElementException;
import java.util.Set;
import java.util.TreeSet;
import java.util.regex.Matcher;
import java.util.regex.Pattern;

/** The run of calls in README.md answers what is written behind each call, and shows every method of the face. */
public final class ReadmeTest {
    private static final Pattern CALL = Pattern.compile("x\\.(\\w+)\\((.*)\\);\\s+// ([\\w-]+)(:.*)?");

    private static Method ofFace(String name) {
        for (Method method : StainStreet.class.getDeclaredMethods()) {
            if (method.getName().equals(name) && Modifier.isPublic(method.getModifiers())) {
                return method;
            }
        }
        return null;
    }

    private static Object written(String argument, Class<?> type) {
        if (type == boolean.class) {
            return Boolean.valueOf(argument);
        }
        long number = Long.decode(argument.endsWith("L") ? argument.substring(0, argument.length() - 1) : argument);
        if (type == long.class) {
            return number;
        }
        return (int) number;
    }

    private static String answer(StainStreet x, Method method, String arguments) throws IllegalAccessException {
        Class<?>[] types = method.getParameterTypes();
        String[] texts = arguments.isEmpty() ? new String[0] : arguments.split(", ");
        if (texts.length != types.length) {
            return "takes " + types.length;
        }
        Object[] values = new Object[types.length];
        for (int i = 0; i < types.length; i++) {
            values[i] = written(texts[i], types[i]);
        }
        try {
            return String.valueOf(method.invoke(x, values));
        } catch (InvocationTargetException e) {
            Throwable thrown = e.getCause();
            return thrown instanceof NoSuchElementException ? "NoSuchElementException" : thrown.toString();
        }
    }

    public static void main(String[] args) throws IOException, IllegalAccessException {
        Set<String> notShown = new TreeSet<>();
        for (Method method : StainStreet.class.getDeclaredMethods()) {
            if (Modifier.isPublic(method.getModifiers())) {
                notShown.add(method.getName());
            }
        }
        StainStreet x = new StainStreet();
        for (String line : Files.readAllLines(Path.of("README.md"))) {
            if (!line.startsWith("x.")) {
                continue;
            }
            Matcher call = CALL.matcher(line);
            boolean isCall = call.matches();
            Check.due("a call with its answer: " + line, isCall, true);
            Method method = isCall ? ofFace(call.group(1)) : null;
            Check.due("a method of the face: " + line, method != null, true);
            if (method != null) {
                notShown.remove(method.getName());
                String got = answer(x, method, call.group(2));
                Check.due(line + " answered " + got, got.equals(call.group(3)), true);
            }
        }
        Check.due("methods that README.md does not show: " + notShown, notShown.size(), 0);
        Check.end("ReadmeTest");
    }
}
