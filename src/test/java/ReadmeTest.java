import java.lang.reflect.Method;
import java.nio.file.Files;
import java.nio.file.Path;
import java.util.regex.Matcher;
import java.util.regex.Pattern;

/** The calls that README.md shows answer what it says, and it names all calls that there are. */
public final class ReadmeTest {
    private static final Check c = new Check();
    private static final Pattern CALL = Pattern.compile("hall\\.(\\w+)\\(([^)]*)\\); +// (-?\\d+): .*");

    public static void main(String[] args) throws Exception {
        String readme = Files.readString(Path.of("README.md"));
        callsAnswerAsShown(readme);
        allCallsAreNamed(readme);
        allTestsAreNamed(readme);
        c.end();
    }

    private static void callsAnswerAsShown(String readme) throws Exception {
        WhiteElephants hall = new WhiteElephants();
        int shown = 0;
        for (String line : readme.split("\n")) {
            if (line.startsWith("hall.")) {
                shown++;
                Matcher call = CALL.matcher(line);
                c.holds(call.matches() && answer(hall, call).equals(call.group(3)), "README.md: " + line);
            }
        }
        c.holds(shown > 10, "README.md shows " + shown + " calls");
    }

    private static String answer(WhiteElephants hall, Matcher call) throws Exception {
        String[] given = call.group(2).isEmpty() ? new String[0] : call.group(2).split(", ");
        Object[] arguments = new Object[given.length];
        for (int i = 0; i < given.length; i++) {
            arguments[i] = Integer.decode(given[i]);
        }
        for (Method method : WhiteElephants.class.getMethods()) {
            if (method.getName().equals(call.group(1))) {
                return method.invoke(hall, arguments).toString();
            }
        }
        return "no such call";
    }

    private static void allCallsAreNamed(String readme) {
        for (Method method : WhiteElephants.class.getMethods()) {
            if (method.getDeclaringClass() == WhiteElephants.class) {
                c.holds(readme.contains("`" + method.getName() + "`"), "README.md does not name " + method.getName());
            }
        }
    }

    private static void allTestsAreNamed(String readme) {
        for (String file : Path.of("src/test/java").toFile().list()) {
            String name = file.replace(".java", "");
            c.holds(!name.endsWith("Test") || readme.contains("`" + name + "`"), "README.md does not name " + name);
        }
    }
}
