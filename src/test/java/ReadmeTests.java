import java.io.IOException;
import java.lang.reflect.InvocationTargetException;
import java.lang.reflect.Method;
import java.lang.reflect.Modifier;
import java.nio.file.Files;
import java.nio.file.Path;
import java.util.Arrays;
import java.util.regex.Matcher;
import java.util.regex.Pattern;

/** The example of README.md answers what stands behind its calls, and no call of the face is left out there. */
final class ReadmeTests {
    private static final Pattern CALL = Pattern.compile("^    house\\.(\\w+)\\((.*)\\); +// (\".*?\"|-?\\d+): .+$");

    private ReadmeTests() { }

    static void run(Path readme) throws IOException {
        String all = Files.readString(readme);
        example(all);
        table(all);
    }

    private static void example(String all) {
        Newsfold house = new Newsfold();
        int calls = 0;
        for (String line : all.split("\n")) {
            Matcher m = CALL.matcher(line);
            boolean isCall = m.matches();
            Check.is("README.md, a line of the example: " + line, isCall, line.startsWith("    house."));
            if (isCall) {
                Check.is("README.md: " + line.strip(), answer(house, m.group(1), m.group(2)), m.group(3).replace("\"", ""));
                calls++;
            }
        }
        Check.is("README.md has an example", calls > 0, true);
    }

    private static void table(String all) {
        for (Method m : Newsfold.class.getDeclaredMethods()) {
            if (Modifier.isPublic(m.getModifiers())) {
                Pattern row = Pattern.compile("^\\|.*`" + m.getName() + "`.*\\|$", Pattern.MULTILINE);
                Check.is("README.md has " + m.getName(), row.matcher(all).find(), true);
            }
        }
    }

    private static Object answer(Newsfold house, String name, String written) {
        String[] words = written.isEmpty() ? new String[0] : written.split(", ");
        Object[] args = Arrays.stream(words).map(ReadmeTests::value).toArray();
        for (Method m : Newsfold.class.getDeclaredMethods()) {
            if (Modifier.isPublic(m.getModifiers()) && m.getName().equals(name) && m.getParameterCount() == args.length) {
                try {
                    return m.invoke(house, args);
                } catch (InvocationTargetException e) {
                    return "throws." + e.getCause().getClass().getSimpleName();
                } catch (IllegalAccessException e) {
                    throw new IllegalStateException(e);
                }
            }
        }
        return "no such call";
    }

    private static Object value(String word) {
        return word.equals("true") || word.equals("false") ? (Object) Boolean.valueOf(word) : Integer.valueOf(word);
    }
}
