import java.lang.reflect.Method;
import java.nio.file.Files;
import java.nio.file.Path;
import java.util.regex.Matcher;
import java.util.regex.Pattern;

/** The calls that README.md shows answer what it says behind them. */
public final class ReadmeTest {
    private static final Check CHECK = new Check();
    private static final Pattern TEXT = Pattern.compile("\"(M.*)\"");
    private static final Pattern CALL = Pattern.compile("(?m)^x\\.(\\w+)\\((.*)\\); +// (-?\\d+)");

    private static Object argument(String told) {
        if (told.equals("true") || told.equals("false")) {
            return Boolean.valueOf(told);
        }
        return Integer.valueOf(told);
    }

    /** Reflection makes a long of an int by itself, where a call wants one. */
    private static long answer(CrowdReports x, String name, String told) throws ReflectiveOperationException {
        Object[] arguments = told.isEmpty()
            ? new Object[0] : Pattern.compile(", ").splitAsStream(told).map(ReadmeTest::argument).toArray();
        for (Method method : CrowdReports.class.getMethods()) {
            if (method.getName().equals(name)) {
                return ((Number) method.invoke(x, arguments)).longValue();
            }
        }
        throw new IllegalStateException("no such call: " + name);
    }

    public static void main(String[] args) throws Exception {
        String readme = Files.readString(Path.of(args.length > 0 ? args[0] : ".", "README.md"));
        Matcher text = TEXT.matcher(readme);
        CHECK.holds("a text is shown", text.find());
        CrowdReports x = Check.written(text.group(1));
        Matcher call = CALL.matcher(readme);
        int shown = 0;
        while (call.find()) {
            CHECK.due(call.group(), answer(x, call.group(1), call.group(2)), Long.parseLong(call.group(3)));
            shown++;
        }
        CHECK.holds("calls are shown", shown > 0);
        CHECK.end();
    }
}
