import java.io.IOException;
import java.lang.reflect.InvocationTargetException;
import java.lang.reflect.Method;
import java.lang.reflect.Modifier;
import java.nio.file.Files;
import java.nio.file.Path;
import java.util.HashMap;
import java.util.Map;
import java.util.regex.Matcher;
import java.util.regex.Pattern;

/** What README.md shows of the class is so: the example's answers, and a list of calls that lacks none and has none besides. */
final class ReadmeTest {
    private static final Due DUE = new Due("ReadmeTest");

    private final String page;
    private final Map<String, Method> calls = new HashMap<>();

    private ReadmeTest(String page) {
        this.page = page;
        for (Method m : WordSeats.class.getDeclaredMethods()) {
            if (Modifier.isPublic(m.getModifiers())) calls.put(m.getName(), m);
        }
    }

    public static void main(String[] args) throws IOException, ReflectiveOperationException {
        ReadmeTest test = new ReadmeTest(Files.readString(Path.of("README.md")));
        test.example();
        test.list();
        DUE.close();
    }

    private void example() throws IllegalAccessException, InvocationTargetException {
        WordSeats x = new WordSeats();
        tellAsShown(x, between("```text\n", "```"));
        Matcher line = Pattern.compile("(?m)^x\\.(\\w+)\\(([^)]*)\\); +// (-?\\d+)").matcher(page);
        int found = 0;
        while (line.find()) {
            Method call = calls.get(line.group(1));
            int got = (Integer) call.invoke(x, arguments(call, line.group(2)));
            DUE.is(line.group(1) + "(" + line.group(2) + ")", Integer.parseInt(line.group(3)), got);
            found++;
        }
        DUE.is("calls shown", 1, found >= 30 ? 1 : 0);
    }

    /** As the page's own method does it, with blanks behind the text. */
    private static void tellAsShown(WordSeats x, String text) {
        for (int at = 0; at < text.length(); at += 20) {
            int[] five = new int[5];
            for (int i = 0; i < 20; i++) {
                int sign = at + i < text.length() ? text.charAt(at + i) : ' ';
                five[i / 4] = five[i / 4] << 8 | sign;
            }
            x.feed(five[0], five[1], five[2], five[3], five[4]);
        }
    }

    private static Object[] arguments(Method call, String shown) {
        Object[] given = new Object[call.getParameterCount()];
        String[] numbers = shown.isEmpty() ? new String[0] : shown.split(", ");
        for (int i = 0; i < given.length; i++) {
            boolean isLong = call.getParameterTypes()[i] == long.class;
            given[i] = isLong ? (Object) Long.parseLong(numbers[i]) : (Object) Integer.parseInt(numbers[i]);
        }
        return given;
    }

    private void list() {
        Map<String, Integer> named = new HashMap<>();
        Matcher name = Pattern.compile("`(\\w+)`").matcher(between("### All calls", "Sets are bits"));
        while (name.find()) named.merge(name.group(1), 1, Integer::sum);
        for (String call : calls.keySet()) DUE.is("the list has " + call, 1, named.getOrDefault(call, 0));
        for (String call : named.keySet()) DUE.is(call + " is a call", 1, calls.containsKey(call) ? 1 : 0);
    }

    private String between(String from, String to) {
        int start = page.indexOf(from) + from.length();
        return page.substring(start, page.indexOf(to, start));
    }
}
