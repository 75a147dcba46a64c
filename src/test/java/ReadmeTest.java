import java.io.IOException;
import java.lang.reflect.Method;
import java.nio.file.Files;
import java.nio.file.Path;
import java.util.ArrayList;
import java.util.List;
import java.util.Map;
import java.util.TreeMap;
import java.util.regex.Matcher;
import java.util.regex.Pattern;

/** The example of use in README.md: each line answers the number that its comment begins with. */
public final class ReadmeTest {
    private static final Path README = Path.of("README.md");
    private static final String FIRST = "StrangerRopes x = new StrangerRopes();";
    private static final Pattern CALL =
        Pattern.compile("(?:int (\\w+) = )?x\\.(\\w+)\\(([\\w, -]*)\\); +// (-?\\d+): .*");
    private static final Check check = new Check("ReadmeTest");

    private static final StrangerRopes x = new StrangerRopes();
    private static final Map<String, Integer> names = new TreeMap<>();

    public static void main(String[] args) throws IOException, ReflectiveOperationException {
        List<String> lines = example();
        check.isTrue("the example begins with a new object", !lines.isEmpty() && lines.get(0).equals(FIRST));
        check.isTrue("the example has calls", lines.size() > 1);
        for (int i = 1; i < lines.size(); i++) look(lines.get(i));
        check.end();
    }

    private static List<String> example() throws IOException {
        List<String> all = Files.readAllLines(README);
        int begin = all.indexOf("```java") + 1;
        List<String> lines = new ArrayList<>();
        for (int i = begin; begin > 0 && i < all.size() && !all.get(i).equals("```"); i++) lines.add(all.get(i));
        return lines;
    }

    private static void look(String line) throws ReflectiveOperationException {
        Matcher call = CALL.matcher(line);
        check.isTrue("a call and its answer: " + line, call.matches());
        if (!call.matches()) return;
        int answer = ((Number) answerOf(call.group(2), call.group(3))).intValue();
        if (call.group(1) != null) names.put(call.group(1), answer);
        check.due(line, answer, Long.parseLong(call.group(4)));
    }

    private static Object answerOf(String name, String told) throws ReflectiveOperationException {
        String[] parts = told.isEmpty() ? new String[0] : told.split(", ");
        Object[] numbers = new Object[parts.length];
        Class<?>[] types = new Class<?>[parts.length];
        for (int i = 0; i < parts.length; i++) {
            Integer named = names.get(parts[i]);
            numbers[i] = named == null ? Integer.valueOf(parts[i]) : named;
            types[i] = int.class;
        }
        Method method = StrangerRopes.class.getMethod(name, types);
        return method.invoke(x, numbers);
    }
}
