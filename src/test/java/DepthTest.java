import java.io.IOException;
import java.nio.file.Files;
import java.nio.file.Path;
import java.util.ArrayList;
import java.util.HashMap;
import java.util.HashSet;
import java.util.List;
import java.util.Map;
import java.util.Set;
import java.util.regex.Matcher;
import java.util.regex.Pattern;

/** Rules 8 and 11 of ../shared/LANGUAGE.md, from the source: no method calls itself, no chain of calls is over eight. */
public final class DepthTest {
    private static final Path SOURCE = Path.of("src/main/java/StrangerRopes.java");
    private static final int DEEPEST = 8;
    private static final String OUTER = "StrangerRopes";
    private static final Pattern CLASS = Pattern.compile(" {4}static final class (\\w+).*");
    private static final Pattern METHOD = Pattern.compile(
        "(?: {4}| {8})(?:(?:public|private|static) )*(?:int|long|boolean|void) (\\w+)\\(.*\\) \\{");
    private static final Pattern FIELD = Pattern.compile(" +private final ([A-Z]\\w+) (\\w+)(?: = .*)?;");
    private static final Pattern CALL = Pattern.compile("(?:(\\w+)\\.)?\\b(\\w+)\\(");

    private static final Check check = new Check("DepthTest");
    // A method is told by its class and name; a field, by its name, has one class wherever it stands.
    private static final Map<String, List<String[]>> calls = new HashMap<>();
    private static final Map<String, String> fields = new HashMap<>();

    public static void main(String[] args) throws IOException {
        read(Files.readString(SOURCE));
        check.isTrue("the methods were read", calls.size() > 100 && calls.containsKey(OUTER + ".freed"));
        for (String method : calls.keySet()) {
            int depth = depthOf(method, new HashSet<>());
            check.isTrue("rule 11: calls from " + method + " go " + depth + " deep", depth <= DEEPEST);
        }
        check.isTrue("freed() is known to go so deep", depthOf(OUTER + ".freed", new HashSet<>()) == DEEPEST);
        check.end();
    }

    private static void read(String source) {
        String code = source.replaceAll("(?s)/\\*.*?\\*/", "").replaceAll("//[^\n]*", "").replaceAll("\"[^\"]*\"", "0");
        String inside = OUTER;
        String method = "";
        for (String line : code.split("\n")) {
            Matcher begins = CLASS.matcher(line);
            Matcher head = METHOD.matcher(line);
            Matcher field = FIELD.matcher(line);
            if (begins.matches()) {
                inside = begins.group(1);
                method = "";
            } else if (head.matches()) {
                method = inside + "." + head.group(1);
                calls.put(method, new ArrayList<>());
            } else if (field.matches()) {
                fields.put(field.group(2), field.group(1));
            } else if (!method.isEmpty()) {
                Matcher call = CALL.matcher(line);
                while (call.find()) calls.get(method).add(new String[] {call.group(1), call.group(2)});
            }
        }
    }

    // "" for what is no method of the file.
    private static String targetOf(String from, String[] call) {
        String inside = from.substring(0, from.indexOf('.'));
        if (call[0] != null) return fields.containsKey(call[0]) ? fields.get(call[0]) + "." + call[1] : "";
        if (calls.containsKey(inside + "." + call[1])) return inside + "." + call[1];
        return calls.containsKey(OUTER + "." + call[1]) ? OUTER + "." + call[1] : "";
    }

    private static int depthOf(String method, Set<String> open) {
        check.isTrue("rule 8: " + method + " calls itself", !open.contains(method));
        if (open.contains(method)) return DEEPEST + 1;
        open.add(method);
        int deepest = 0;
        for (String[] call : calls.get(method)) {
            String target = targetOf(method, call);
            if (calls.containsKey(target)) deepest = Math.max(deepest, depthOf(target, open));
        }
        open.remove(method);
        return deepest + 1;
    }
}
