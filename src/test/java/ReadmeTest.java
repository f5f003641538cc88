import java.lang.reflect.Method;
import java.lang.reflect.Modifier;
import java.nio.file.Files;
import java.nio.file.Path;
import java.util.regex.Matcher;
import java.util.regex.Pattern;

/** What README.md shows of the class is so: each call there answers what stands behind it. */
public final class ReadmeTest extends Checks {
    private static final Pattern CALL = Pattern.compile("g\\.(\\w+)\\((.*)\\); +// (-?\\d+|true|false): .*");

    private ReadmeTest() {
    }

    private static String exampleOf(String readme) {
        int from = readme.indexOf("```java\n");
        int to = readme.indexOf("\n```\n", from);
        return from < 0 || to < 0 ? "" : readme.substring(from + 8, to);
    }

    private static Method method(String name) {
        for (Method m : ShadeGrid.class.getDeclaredMethods()) {
            if (m.getName().equals(name) && Modifier.isPublic(m.getModifiers())) {
                return m;
            }
        }
        throw new IllegalStateException("no call " + name);
    }

    private static Object[] numbers(String list) {
        String[] each = list.isEmpty() ? new String[0] : list.split(", ");
        Object[] all = new Object[each.length];
        for (int n = 0; n < each.length; n++) {
            all[n] = Integer.decode(each[n]);
        }
        return all;
    }

    private static void callsAnswerSo(String example) throws Exception {
        ShadeGrid g = new ShadeGrid();
        int calls = 0;
        for (String line : example.split("\n")) {
            Matcher call = CALL.matcher(line);
            if (call.matches()) {
                at("README.md: " + line);
                String got = String.valueOf(method(call.group(1)).invoke(g, numbers(call.group(2))));
                if (!got.equals(call.group(3))) {
                    fails("answered " + got);
                }
                calls++;
            } else if (!line.isEmpty() && !line.startsWith("//") && !line.equals("ShadeGrid g = new ShadeGrid();")) {
                fails("a line that is not tested: " + line);
            }
        }
        is("the calls of the example, 20 or more", calls >= 20, true);
    }

    private static void everyCallIsNamed(String readme) {
        at("README.md");
        for (Method m : ShadeGrid.class.getDeclaredMethods()) {
            boolean named = readme.contains("`" + m.getName() + "`") || readme.contains("`" + m.getName() + "()`");
            if (Modifier.isPublic(m.getModifiers()) && !named) {
                fails("does not name " + m.getName());
            }
        }
    }

    public static void main(String[] args) throws Exception {
        String readme = Files.readString(Path.of("README.md"));
        callsAnswerSo(exampleOf(readme));
        everyCallIsNamed(readme);
        end("README.md tells what is so");
    }
}
