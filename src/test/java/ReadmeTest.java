import java.io.IOException;
import java.lang.reflect.Method;
import java.nio.file.Files;
import java.nio.file.Path;
import java.util.regex.Matcher;
import java.util.regex.Pattern;

/** The example of README.md: each call answers what its comment begins with. */
public final class ReadmeTest {
    private static final Check CHECK = new Check("ReadmeTest");
    private static final Pattern MADE = Pattern.compile(".* = new CarrierPaths\\((\\d+)\\);.*");
    private static final Pattern CALL =
            Pattern.compile("yard\\.(\\w+)\\(([^)]*)\\); +// (-?\\d+|true|false): .*");

    private CarrierPaths yard;

    public static void main(String[] args) throws IOException, ReflectiveOperationException {
        ReadmeTest test = new ReadmeTest();
        boolean inExample = false;
        for (String line : Files.readAllLines(Path.of("README.md"))) {
            if (line.startsWith("```")) {
                inExample = line.equals("```java");
            } else if (inExample) {
                test.follow(line);
            }
        }
        CHECK.end();
    }

    private void follow(String line) throws ReflectiveOperationException {
        Matcher made = MADE.matcher(line);
        Matcher call = CALL.matcher(line);
        if (made.matches()) {
            yard = new CarrierPaths(Integer.parseInt(made.group(1)));
        } else if (yard != null && call.matches()) {
            CHECK.same(line, call.group(3), answer(call.group(1), call.group(2)));
        } else {
            CHECK.say("not a call with its answer: " + line);
        }
    }

    private String answer(String name, String written) throws ReflectiveOperationException {
        String[] words = written.isEmpty() ? new String[0] : written.split(", ");
        Object[] values = new Object[words.length];
        for (int i = 0; i < words.length; i++) {
            boolean isNumber = words[i].matches("-?\\d+");
            values[i] = isNumber ? (Object) Integer.valueOf(words[i]) : Boolean.valueOf(words[i]);
        }
        return String.valueOf(methodOf(name).invoke(yard, values));
    }

    private static Method methodOf(String name) throws NoSuchMethodException {
        for (Method m : CarrierPaths.class.getMethods()) {
            if (m.getName().equals(name)) {
                return m;
            }
        }
        throw new NoSuchMethodException(name);
    }
}
