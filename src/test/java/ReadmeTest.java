import java.io.IOException;
import java.lang.reflect.Method;
import java.nio.file.Files;
import java.nio.file.Path;
import java.util.regex.Matcher;
import java.util.regex.Pattern;

/** The README's example is run as it stands there, line by line; the argument is the README's path. */
final class ReadmeTest {
    private static final Pattern CALL = Pattern.compile("x\\.(\\w+)\\(([-0-9, ]*)\\); +// (-?\\d+):.*");
    private static final Pattern FORCED = Pattern.compile("x\\.force\\(x\\.text\\(\\)\\); +// (-?\\d+):.*");
    private static final Pattern TEXT = Pattern.compile("String t = \"([^\"]*)\";");

    private ReadmeTest() {
    }

    static void tests(String path) throws IOException, ReflectiveOperationException {
        String page = Files.readString(Path.of(path));
        for (Method m : AlwaysTheTopTwo.class.getMethods()) {
            if (m.getDeclaringClass() == AlwaysTheTopTwo.class) {
                Tally.holds("README names " + m.getName(), page.contains("`" + m.getName() + "`"));
            }
        }
        AlwaysTheTopTwo x = null;
        int calls = 0;
        for (String line : page.split("\n")) {
            String told = line.strip();
            Matcher call = CALL.matcher(told);
            Matcher forced = FORCED.matcher(told);
            Matcher text = TEXT.matcher(told);
            if (told.equals("AlwaysTheTopTwo x = new AlwaysTheTopTwo();")) {
                x = new AlwaysTheTopTwo();
            } else if (call.matches()) {
                calls++;
                Tally.due("README: " + told, answer(x, call.group(1), call.group(2)), Long.parseLong(call.group(3)));
            } else if (text.matches()) {
                Made.feed(x, text.group(1));
            } else if (forced.matches()) {
                calls++;
                Tally.due("README: " + told, x.force(x.text()), Long.parseLong(forced.group(1)));
            }
        }
        Tally.due("calls of README, each with its answer", calls, page.split("(?m)^    x\\.").length - 1);
    }

    private static long answer(AlwaysTheTopTwo x, String name, String list) throws ReflectiveOperationException {
        String[] given = list.isEmpty() ? new String[0] : list.split(", ");
        Class<?>[] types = new Class<?>[given.length];
        Object[] args = new Object[given.length];
        for (int k = 0; k < given.length; k++) {
            types[k] = int.class;
            args[k] = Integer.parseInt(given[k]);
        }
        return ((Number) AlwaysTheTopTwo.class.getMethod(name, types).invoke(x, args)).longValue();
    }
}
