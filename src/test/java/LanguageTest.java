import java.io.IOException;
import java.lang.reflect.Field;
import java.lang.reflect.Method;
import java.lang.reflect.Modifier;
import java.nio.file.Files;
import java.nio.file.Path;
import java.util.Arrays;
import java.util.List;
import java.util.TreeSet;
import java.util.regex.Matcher;
import java.util.regex.Pattern;

/** Rules of ../shared/LANGUAGE.md that can be seen from the source and from the class. */
public final class LanguageTest {
    private static final Path SOURCE = Path.of("src/main/java/StrangerRopes.java");
    private static final String FACE = "way far person of change tie cut rope go now next may when ahead held still length"
        + " kindFor lead cuts freed apart least mate ways fits who pulls knots days seed feed wipe text hold as sheet"
        + " write copy load judge image undo tear count status";
    private static final Check check = new Check("LanguageTest");

    public static void main(String[] args) throws IOException {
        face();
        classes();
        words(Files.readString(SOURCE));
        lengths(Files.readAllLines(SOURCE));
        check.end();
    }

    private static void face() {
        TreeSet<String> face = new TreeSet<>(Arrays.asList(FACE.split(" ")));
        TreeSet<String> found = new TreeSet<>();
        for (Method method : StrangerRopes.class.getDeclaredMethods()) {
            String name = method.getName();
            if (Modifier.isPublic(method.getModifiers())) found.add(name);
            else check.isTrue("rule 1: " + name, Modifier.isPrivate(method.getModifiers()) && !face.contains(name));
        }
        check.isTrue("rule 1: the face", found.equals(face));
        check.due("rule 1: constructors", StrangerRopes.class.getDeclaredConstructors().length, 1);
        check.isTrue("rule 1: final", Modifier.isFinal(StrangerRopes.class.getModifiers()));
        for (Field field : StrangerRopes.class.getDeclaredFields()) {
            check.isTrue("rule 1: " + field.getName(), Modifier.isPrivate(field.getModifiers()));
        }
    }

    private static void classes() {
        Class<?>[] inside = StrangerRopes.class.getDeclaredClasses();
        check.isTrue("rule 11: classes", inside.length < 12);
        looks(StrangerRopes.class);
        for (Class<?> one : inside) {
            int modifiers = one.getModifiers();
            check.isTrue("rule 2: " + one.getName(), Modifier.isStatic(modifiers) && !Modifier.isPublic(modifiers));
            looks(one);
        }
    }

    private static void looks(Class<?> one) {
        int fields = 0;
        for (Field field : one.getDeclaredFields()) {
            if (!Modifier.isStatic(field.getModifiers())) fields++;
            else check.isTrue("rule 5: " + field.getName(), Modifier.isFinal(field.getModifiers()));
        }
        check.isTrue("rule 11: fields of " + one.getName(), fields <= 20);
        for (Method method : one.getDeclaredMethods()) {
            String name = method.getName();
            check.isTrue("rule 11: " + name, method.getParameterCount() <= 7);
            boolean isOfFace = Arrays.asList(FACE.split(" ")).contains(name);
            check.isTrue("rule 1: " + name + " of " + one.getName(), !isOfFace || one == StrangerRopes.class);
        }
    }

    private static void words(String source) {
        String code = source.replaceAll("(?s)/\\*.*?\\*/", "").replaceAll("//[^\n]*", "")
            .replaceAll("'[^']*'", "0").replaceAll("\"[^\"]*\"", "0");
        String banned = "\\b(throw|throws|try|catch|synchronized|assert|protected|package|Object|System\\.(?!arraycopy)|"
            + "equals|hashCode|toString|double|float|instanceof)\\b|->|::|@|static\\s*\\{|Exact\\b";
        Matcher matcher = Pattern.compile(banned).matcher(code);
        boolean isBanned = matcher.find();
        check.isTrue("rules 4 to 6: " + (isBanned ? matcher.group() : ""), !isBanned);
        Matcher imports = Pattern.compile("import ([^;]*);").matcher(code);
        while (imports.find()) {
            check.isTrue("rule 4: " + imports.group(1), List.of("java.util.Arrays").contains(imports.group(1)));
        }
        for (String line : code.split("\n")) {
            boolean makes = line.contains("new ");
            if (makes) check.isTrue("made by a field alone: " + line, line.strip().startsWith("private final "));
        }
        boolean isPlain = source.chars().allMatch(c -> c == '\n' || c >= ' ' && c < 127);
        check.isTrue("rule 4: signs", isPlain);
    }

    // A method or constructor begins at one of two depths, and ends with a brace at the same.
    private static void lengths(List<String> lines) {
        Pattern head = Pattern.compile("( {4}| {8})[a-zA-Z].*\\) \\{");
        int begin = -1;
        String indent = "";
        for (int i = 0; i < lines.size(); i++) {
            Matcher matcher = head.matcher(lines.get(i));
            if (begin < 0 && matcher.matches() && !lines.get(i).strip().startsWith("for ")) {
                begin = i;
                indent = matcher.group(1);
            } else if (begin >= 0 && lines.get(i).equals(indent + "}")) {
                check.isTrue("rule 11: " + lines.get(begin).strip(), i - begin < 60);
                begin = -1;
            }
        }
    }
}
