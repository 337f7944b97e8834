import java.io.IOException;
import java.lang.reflect.InvocationTargetException;
import java.lang.reflect.Method;
import java.nio.file.Files;
import java.nio.file.Path;
import java.util.regex.Matcher;
import java.util.regex.Pattern;

/** The example of README.md: each of its calls is made, and the answer that stands behind it is due. */
final class ReadmeTest {
    private static final Pattern LINE = Pattern.compile("x\\.(\\w+)\\(([^)]*)\\); *(?:// (\\S+?)[:;,]?(?: .*)?)?");

    public static void main(String[] args) throws IOException {
        TripReckoner x = new TripReckoner();
        int calls = 0;
        for (String line : Files.readAllLines(Path.of(System.getProperty("root", "."), "README.md"))) {
            Matcher matcher = LINE.matcher(line);
            if (matcher.matches()) {
                calls++;
                String answer = answerOf(x, matcher.group(1), matcher.group(2));
                Check.due(matcher.group(1) + "(" + matcher.group(2) + ")", answer, String.valueOf(matcher.group(3)));
            }
        }
        Check.due("README has calls of its example", calls > 20, true);
        Check.finish();
    }

    private static String answerOf(TripReckoner x, String name, String list) {
        String[] words = list.isEmpty() ? new String[0] : list.split(", *");
        Object[] arguments = new Object[words.length];
        for (int i = 0; i < words.length; i++) {
            boolean flag = words[i].equals("true") || words[i].equals("false");
            arguments[i] = flag ? (Object) Boolean.valueOf(words[i]) : (Object) Long.decode(words[i]).intValue();
        }
        for (Method method : TripReckoner.class.getMethods()) {
            if (method.getName().equals(name) && method.getParameterCount() == words.length) {
                return invoked(x, method, arguments);
            }
        }
        return "no such call";
    }

    private static String invoked(TripReckoner x, Method method, Object[] arguments) {
        try {
            return String.valueOf(method.invoke(x, arguments));
        } catch (InvocationTargetException e) {
            return "throws." + e.getCause().getClass().getSimpleName();
        } catch (IllegalAccessException e) {
            return "no public call";
        }
    }
}
