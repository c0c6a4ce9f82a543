import java.io.IOException;
import java.lang.reflect.Method;
import java.nio.file.Files;
import java.nio.file.Path;
import java.util.regex.Matcher;
import java.util.regex.Pattern;

/** The lines of README.md that tell an answer, one behind the other on one object. */
public final class ReadmeTest {
    private static final Pattern CALL = Pattern.compile("x\\.(\\w+)\\(([^)]*)\\); +// (-?\\d+)(:.*)?");
    private static final Pattern TELL = Pattern.compile("tell\\(x, (\\d), \"([^\"]*)\"\\); +// (-?\\d+)(:.*)?");
    private static final int LINES = 20;

    public static void main(String[] args) throws IOException, ReflectiveOperationException {
        DunkedBiscuits x = new DunkedBiscuits();
        int wrong = 0;
        int lines = 0;
        for (String line : Files.readAllLines(Path.of("README.md"))) {
            Matcher call = CALL.matcher(line);
            Matcher tell = TELL.matcher(line);
            long got;
            long want;
            if (call.matches()) {
                got = answer(x, call.group(1), call.group(2).isEmpty() ? new String[0] : call.group(2).split(", "));
                want = Long.parseLong(call.group(3));
            } else if (tell.matches()) {
                got = tell(x, Integer.parseInt(tell.group(1)), tell.group(2));
                want = Long.parseLong(tell.group(3));
            } else {
                continue;
            }
            lines++;
            if (got != want) {
                wrong++;
                System.out.println(line + " answered " + got);
            }
        }
        if (lines < LINES) {
            wrong++;
            System.out.println("only " + lines + " lines of README.md tell an answer");
        }
        System.out.println(wrong == 0 ? "README.md: as due" : "README.md: " + wrong + " not as due");
        if (wrong != 0) {
            System.exit(1);
        }
    }

    private static long answer(DunkedBiscuits x, String name, String[] numbers) throws ReflectiveOperationException {
        for (Method m : DunkedBiscuits.class.getMethods()) {
            if (m.getName().equals(name) && m.getParameterCount() == numbers.length) {
                Object[] arguments = new Object[numbers.length];
                for (int i = 0; i < numbers.length; i++) {
                    boolean isLong = m.getParameterTypes()[i] == long.class;
                    arguments[i] = isLong ? (Object) Long.valueOf(numbers[i]) : (Object) Integer.valueOf(numbers[i]);
                }
                return ((Number) m.invoke(x, arguments)).longValue();
            }
        }
        throw new NoSuchMethodException(name);
    }

    private static int tell(DunkedBiscuits x, int shelf, String text) {
        x.row(shelf, 0, text.length());
        for (int i = 0; i < text.length(); i++) {
            x.set(shelf, i, text.charAt(i));
        }
        return x.table(shelf);
    }
}
