import java.lang.reflect.Method;
import java.nio.file.Files;
import java.nio.file.Path;
import java.util.Arrays;
import java.util.regex.Matcher;
import java.util.regex.Pattern;

/** README.md: its calls, one after the other on one object, answer what stands behind them; it names every call. */
public final class ReadmeTest {
    private static final Check check = new Check("ReadmeTest");
    private static final Pattern CALL = Pattern.compile("x\\.(\\w+)\\(([^)]*)\\);\\s*// (-?\\d+|NO):.*");
    private static final Pattern FEED = Pattern.compile("feed\\(x, \"([^\"]*)\"\\);");
    private static final Method[] calls = Calls.of(HandkerchiefsDropped.class);

    public static void main(String[] args) throws Exception {
        HandkerchiefsDropped x = new HandkerchiefsDropped();
        String page = Files.readString(Path.of("README.md"));
        int made = 0;
        for (String line : page.split("\n")) {
            Matcher call = CALL.matcher(line);
            Matcher feed = FEED.matcher(line);
            if (call.matches()) {
                answers(x, line, call.group(1), call.group(2), call.group(3));
                made++;
            } else if (feed.matches()) {
                Check.put(x, feed.group(1));
            } else {
                check.isTrue("it can be read: " + line, !line.startsWith("x.") && !line.startsWith("feed("));
            }
        }
        check.isTrue("calls of the page: " + made, made >= 35);
        namesEveryCall(page);
        check.end();
    }

    private static void answers(HandkerchiefsDropped x, String line, String name, String args, String due)
            throws ReflectiveOperationException {
        int[] numbers = args.isEmpty() ? new int[0]
            : Arrays.stream(args.split(", *")).mapToInt(Integer::parseInt).toArray();
        for (Method m : calls) {
            if (m.getName().equals(name)) {
                check.due(line, Calls.answer(x, m, numbers),
                    due.equals("NO") ? HandkerchiefsDropped.NO : Long.parseLong(due));
                return;
            }
        }
        check.isTrue("there is such a call: " + line, false);
    }

    private static void namesEveryCall(String page) {
        for (Method m : calls) {
            check.isTrue("it names " + m.getName(), page.contains("`" + m.getName() + "`"));
        }
    }
}
