import java.lang.reflect.InvocationTargetException;
import java.lang.reflect.Method;
import java.nio.file.Files;
import java.nio.file.Path;
import java.util.regex.Matcher;
import java.util.regex.Pattern;

/** Each call in README.md answers what stands behind it there. */
public final class ReadmeTest {
    private static final Path README = Path.of("README.md");
    private static final String MADE = "Diophantdesk desk = new Diophantdesk();";
    /** A call, and behind it what it answers, with a remark behind ": ", if there is one. */
    private static final Pattern CALL = Pattern.compile("desk\\.(\\w+)\\((.*)\\); +// (.+?)(?:: .*)?");

    private ReadmeTest() {
    }

    private static Method methodOf(String name) {
        for (Method method : Diophantdesk.class.getMethods()) {
            if (method.getName().equals(name)) {
                return method;
            }
        }
        throw new IllegalArgumentException("there is no " + name);
    }

    private static Object[] arguments(Class<?>[] types, String written) {
        String[] parts = written.isEmpty() ? new String[0] : written.split(", ");
        if (parts.length != types.length) {
            throw new IllegalArgumentException("not as many as there are: " + written);
        }
        Object[] arguments = new Object[parts.length];
        for (int i = 0; i < parts.length; i++) {
            if (types[i] == int.class) {
                arguments[i] = Integer.parseInt(parts[i]);
            } else {
                arguments[i] = Boolean.parseBoolean(parts[i]);
            }
        }
        return arguments;
    }

    private static String answer(Diophantdesk desk, String name, String written) throws IllegalAccessException {
        Method method = methodOf(name);
        try {
            Object answer = method.invoke(desk, arguments(method.getParameterTypes(), written));
            return answer instanceof String ? "\"" + answer + "\"" : answer.toString();
        } catch (InvocationTargetException thrown) {
            return "throws " + thrown.getCause().getClass().getSimpleName();
        }
    }

    public static void main(String[] args) throws Exception {
        Diophantdesk desk = null;
        boolean isJava = false;
        int calls = 0;
        int wrong = 0;
        for (String line : Files.readAllLines(README)) {
            isJava = line.startsWith("```") ? line.equals("```java") : isJava;
            if (!isJava || line.startsWith("```") || line.startsWith("//") || line.isEmpty()) {
                continue;
            }
            if (line.equals(MADE)) {
                desk = new Diophantdesk();
                continue;
            }
            Matcher call = CALL.matcher(line);
            String got = call.matches() ? answer(desk, call.group(1), call.group(2)) : "no call";
            calls++;
            if (!call.matches() || !call.group(3).equals(got)) {
                wrong++;
                System.out.println("README.md: " + line + " got " + got);
            }
        }
        System.out.println(calls + " calls of README.md, " + wrong + " wrong");
        if (wrong > 0 || calls == 0) {
            System.exit(1);
        }
    }
}
