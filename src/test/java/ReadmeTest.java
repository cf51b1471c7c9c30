import java.io.IOException;
import java.lang.reflect.Method;
import java.nio.file.Files;
import java.nio.file.Path;
import java.util.regex.Matcher;
import java.util.regex.Pattern;

/** The example in README.md: each call answers what its comment begins with, a number or a constant's name. */
public final class ReadmeTest {
    private static final Pattern CALL = Pattern.compile("x\\.(\\w+)\\(([^)]*)\\);\\s*// (-?\\w+).*");
    private static final Check check = new Check();

    public static void main(String[] args) throws IOException, ReflectiveOperationException {
        FeltByTwin x = new FeltByTwin();
        int calls = 0;
        for (String line : Files.readAllLines(Path.of("README.md"))) {
            Matcher told = CALL.matcher(line);
            if (told.matches()) {
                check.same(line, answer(x, told.group(1), told.group(2)), due(told.group(3)));
                calls++;
            } else {
                check.holds("a call without an answer: " + line, !line.startsWith("x."));
            }
        }
        check.holds("there is an example", calls > 0);
        check.end();
    }

    private static long answer(FeltByTwin x, String name, String numbers) throws ReflectiveOperationException {
        String[] told = numbers.isEmpty() ? new String[0] : numbers.split(", ");
        for (Method method : FeltByTwin.class.getMethods()) {
            if (method.getName().equals(name)) {
                Object[] given = new Object[told.length];
                for (int i = 0; i < told.length; i++) {
                    boolean isLong = method.getParameterTypes()[i] == long.class;
                    Long number = Long.decode(told[i].replace("L", ""));
                    given[i] = isLong ? (Object) number : (Object) number.intValue();
                }
                return ((Number) method.invoke(x, given)).longValue();
            }
        }
        throw new NoSuchMethodException(name);
    }

    private static long due(String told) throws ReflectiveOperationException {
        return told.matches("-?\\d+") ? Long.parseLong(told) : FeltByTwin.class.getField(told).getInt(null);
    }
}
