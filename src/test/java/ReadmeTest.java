import java.lang.reflect.InvocationTargetException;
import java.lang.reflect.Method;
import java.nio.file.Files;
import java.nio.file.Path;
import java.util.regex.Matcher;
import java.util.regex.Pattern;

/** What README.md shows of the class is so: each call of its Java lines gives the answer that stands behind it. */
public final class ReadmeTest {
    private static final Pattern CALL = Pattern.compile(
        "works\\.(\\w+)\\((.*)\\); +// (?:(-?\\d+|IllegalArgumentException)(?:: .*)?|.*)");

    public static void main(String[] args) throws Exception {
        PatternWorks works = new PatternWorks();
        int calls = 0;
        for (String line : Files.readAllLines(Path.of("README.md"))) {
            Matcher call = CALL.matcher(line);
            if (call.matches()) {
                calls++;
                String got = answer(works, call.group(1), call.group(2).isEmpty() ? new String[0] : call.group(2).split(", "));
                Works.same(line, got, "" + call.group(3));
            } else {
                Works.same(line + " is no call without an answer", line.startsWith("works.") ? 1 : 0, 0);
            }
        }
        Works.same("README.md shows calls", calls > 20 ? 1 : 0, 1);
        Works.finish("ReadmeTest");
    }

    private static String answer(PatternWorks works, String name, String[] told) throws Exception {
        for (Method method : PatternWorks.class.getMethods()) {
            if (method.getName().equals(name)) {
                Object[] values = new Object[told.length];
                for (int i = 0; i < told.length; i++) {
                    boolean isBoolean = method.getParameterTypes()[i] == boolean.class;
                    values[i] = isBoolean ? (Object) Boolean.valueOf(told[i]) : (Object) Integer.decode(told[i]);
                }
                try {
                    return "" + method.invoke(works, values);
                } catch (InvocationTargetException e) {
                    return e.getCause().getClass().getSimpleName();
                }
            }
        }
        return "no such method";
    }
}
