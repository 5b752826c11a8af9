import java.io.IOException;
import java.lang.reflect.Method;
import java.nio.file.Files;
import java.nio.file.Path;
import java.util.regex.Matcher;
import java.util.regex.Pattern;

/** README.md's calls, one behind the other on one object: each answers what stands behind it. */
public final class ReadmeTest {
    private static final Check CHECK = new Check("ReadmeTest");
    private static final Pattern CALL = Pattern.compile("x\\.(\\w+)\\(([^)]*)\\);\\s*// (-?\\d+)(:.*)?");

    private static long answer(TroupeSums x, String name, String told) throws ReflectiveOperationException {
        String[] words = told.isEmpty() ? new String[0] : told.split(",\\s*");
        Object[] arguments = new Object[words.length];
        for (int i = 0; i < words.length; i++) {
            arguments[i] = (int) (long) Long.decode(words[i]);
        }
        for (Method method : TroupeSums.class.getMethods()) {
            if (method.getName().equals(name) && method.getParameterCount() == words.length) {
                return ((Number) method.invoke(x, arguments)).longValue();
            }
        }
        throw new NoSuchMethodException(name);
    }

    public static void main(String[] args) throws IOException, ReflectiveOperationException {
        TroupeSums x = new TroupeSums();
        int calls = 0;
        for (String line : Files.readString(Path.of(System.getProperty("project", ".")).resolve("README.md")).split("\n")) {
            if (line.startsWith("x.")) {
                Matcher call = CALL.matcher(line);
                boolean told = call.matches();
                CHECK.holds("what " + line + " answers is told", told);
                if (told) {
                    CHECK.same(line, answer(x, call.group(1), call.group(2)), Long.parseLong(call.group(3)));
                    calls++;
                }
            }
        }
        CHECK.holds("calls in README.md: " + calls, calls > 0);
        CHECK.finish();
    }
}
