import java.io.IOException;
import java.lang.reflect.Method;
import java.nio.file.Files;
import java.nio.file.Path;
import java.util.regex.Matcher;
import java.util.regex.Pattern;

/** Makes the calls of README.md in their order and compares the answers that stand behind them. */
public final class ReadmeTest {
    private static final Pattern CALL = Pattern.compile("^x\\.(\\w+)\\(([^)]*)\\);\\s+// (-?\\d+)(:.*)?$");

    public static void main(String[] args) throws IOException, ReflectiveOperationException {
        EightWorlds x = new EightWorlds();
        int calls = 0;
        for (String line : Files.readString(Path.of("README.md")).split("\n")) {
            if (line.startsWith("x.")) {
                Matcher m = CALL.matcher(line);
                Check.holds("a call and its answer: " + line, m.matches());
                Check.due(line, answer(x, m.group(1), m.group(2)), Long.parseLong(m.group(3)));
                calls++;
            }
        }
        Check.holds("README.md shows calls", calls > 0);
        Check.end("ReadmeTest");
    }

    private static long answer(EightWorlds x, String call, String told) throws ReflectiveOperationException {
        String[] numbers = told.isEmpty() ? new String[0] : told.split(", ");
        for (Method m : EightWorlds.class.getMethods()) {
            if (m.getName().equals(call) && m.getParameterCount() == numbers.length) {
                Object[] all = new Object[numbers.length];
                for (int i = 0; i < all.length; i++) {
                    long v = number(numbers[i]);
                    all[i] = m.getParameterTypes()[i] == long.class ? (Object) v : (Object) (int) v;
                }
                return ((Number) m.invoke(x, all)).longValue();
            }
        }
        throw new IllegalArgumentException("no call " + call + "(" + told + ")");
    }

    private static long number(String told) {
        return told.startsWith("'") ? told.charAt(1) : Long.parseLong(told);
    }
}
