import java.io.File;
import java.io.IOException;
import java.lang.reflect.InvocationTargetException;
import java.lang.reflect.Method;
import java.nio.file.Files;
import java.nio.file.Path;
import java.util.HashSet;
import java.util.Set;
import java.util.regex.Matcher;
import java.util.regex.Pattern;

/** README.md says what is so: its calls, one behind the other, answer what stands behind them; it names every test. */
public final class ReadmeTest extends Check {
    private static final Pattern CALL =
        Pattern.compile("ledger\\.(\\w+)\\(([^)]*)\\); +// (\"[^\"]*\"|throws \\w+|[^ ]+)(?: \\(.*\\))?");

    public static void main(String[] args) throws IOException, IllegalAccessException {
        String page = Files.readString(Path.of("README.md"));
        calls(page);
        tests(page);
        finish();
    }

    private static void calls(String page) throws IllegalAccessException {
        Rainledger ledger = new Rainledger();
        Matcher code = Pattern.compile("(?s)```java\n(.*?)```").matcher(page);
        int many = 0;
        while (code.find()) {
            for (String line : code.group(1).split("\n")) {
                if (line.equals("Rainledger ledger = new Rainledger();")) {
                    continue;
                }
                about("README.md: " + line);
                Matcher call = CALL.matcher(line);
                is(true, call.matches());
                is(call.group(3), answer(ledger, call.group(1), call.group(2)));
                many++;
            }
        }
        about("README.md has calls");
        is(true, many > 20);
    }

    private static String answer(Rainledger ledger, String name, String told) throws IllegalAccessException {
        String[] words = told.isEmpty() ? new String[0] : told.split(", ");
        for (Method method : Rainledger.class.getMethods()) {
            if (!method.getName().equals(name) || method.getDeclaringClass() != Rainledger.class) {
                continue;
            }
            Class<?>[] types = method.getParameterTypes();
            is(types.length, words.length);
            Object[] given = new Object[types.length];
            for (int i = 0; i < types.length; i++) {
                given[i] = types[i] == boolean.class ? (Object) Boolean.parseBoolean(words[i]) : (Object) Integer.parseInt(words[i]);
            }
            try {
                Object answer = method.invoke(ledger, given);
                return answer instanceof String ? "\"" + answer + "\"" : "" + answer;
            } catch (InvocationTargetException e) {
                return "throws " + e.getCause().getClass().getSimpleName();
            }
        }
        return "no such call";
    }

    private static void tests(String page) {
        about("README.md tells each test");
        Set<String> due = new HashSet<>();
        Matcher told = Pattern.compile("(?m)^- `(\\w+Test)`:").matcher(page);
        while (told.find()) {
            due.add(told.group(1));
        }
        Set<String> got = new HashSet<>();
        for (String file : new File("src/test/java").list()) {
            if (file.endsWith("Test.java")) {
                got.add(file.substring(0, file.length() - 5));
            }
        }
        is(due, got);
    }
}
