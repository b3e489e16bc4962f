import java.io.IOException;
import java.lang.reflect.Field;
import java.lang.reflect.Modifier;
import java.nio.file.Files;
import java.nio.file.Path;
import java.util.List;
import java.util.Set;
import java.util.TreeSet;
import java.util.regex.Matcher;
import java.util.regex.Pattern;

/** What can be seen of ../shared/LANGUAGE.md in the text of the class: its library, throws, static fields and sizes. */
public final class LanguageTest {
    private static final Due DUE = new Due();
    private static final Path SOURCE = Path.of("src/main/java/WalkingTown.java");
    private static final Set<String> IMPORTS = Set.of("import java.util.ArrayList;", "import java.util.Arrays;",
            "import java.util.NoSuchElementException;");
    /** Of the library: what rule 4 lists and the class uses. Calls of its own objects begin with a small letter. */
    private static final Set<String> LIBRARY = Set.of("Math.min", "Math.max", "Long.bitCount", "Arrays.fill",
            "System.arraycopy", "Token.values", "Town.minutesFor", "Town.paceFor", "Roads.isCorner");
    private static final String[] NEVER = {"catch", "finally", "synchronized", "assert", "package", "protected", "->",
        "::", "instanceof", "Exact", "Random", "currentTimeMillis", "nanoTime", "Thread", "System.out", "System.exit"};

    public static void main(String[] args) throws IOException {
        List<String> lines = Files.readAllLines(SOURCE);
        imports(lines);
        DUE.is("signs 32 to 126 alone", String.join("", lines).matches("[ -~]*"), true);
        String code = withoutTexts(lines);
        for (String never : NEVER) {
            DUE.is("no " + never, code.contains(never), false);
        }
        library(code);
        throwing(code);
        DUE.is("no static block", code.contains("static {"), false);
        DUE.is("classes", find("\\b(?:class|enum|interface|record)\\s+[A-Z]\\w*", code).size() <= 12, true);
        sizes(lines);
        fields(WalkingTown.class);
        for (Class<?> inside : WalkingTown.class.getDeclaredClasses()) {
            fields(inside);
        }
        DUE.end();
    }

    private static void imports(List<String> lines) {
        for (String line : lines) {
            if (line.startsWith("import")) {
                DUE.is(line, IMPORTS.contains(line), true);
            }
        }
    }

    private static String withoutTexts(List<String> lines) {
        StringBuilder code = new StringBuilder();
        for (String line : lines) {
            if (!line.trim().startsWith("/**")) {
                code.append(line.replaceAll("\"[^\"]*\"", "\"\"")).append('\n');
            }
        }
        return code.toString();
    }

    private static Set<String> find(String pattern, String code) {
        Set<String> found = new TreeSet<>();
        Matcher matcher = Pattern.compile(pattern).matcher(code);
        while (matcher.find()) {
            found.add(matcher.group());
        }
        return found;
    }

    private static void library(String code) {
        for (String call : find("\\b[A-Z]\\w*\\.\\w+(?=\\()", code)) {
            DUE.is("a call of " + call, LIBRARY.contains(call), true);
        }
    }

    /** of() alone throws, and a constructor does not. */
    private static void throwing(String code) {
        DUE.is("one throw", code.split("\\bthrow\\b", -1).length, 2);
        int at = code.indexOf("throw new NoSuchElementException(");
        int method = code.lastIndexOf("    public ", at);
        DUE.is("in of()", code.startsWith("    public int of(int p, int what) throws NoSuchElementException {", method), true);
    }

    /** Rule 11: seven parameters, some sixty lines. */
    private static void sizes(List<String> lines) {
        Pattern head = Pattern.compile("( +)(?:public |private )?(?:static )?[\\w\\[\\]]+ ?\\w*\\(([^()]*)\\)(?: throws \\w+)? \\{");
        int methods = 0;
        for (int i = 0; i < lines.size(); i++) {
            Matcher matcher = head.matcher(lines.get(i));
            if (matcher.matches() && !lines.get(i).trim().matches("(if|for|while|switch)\\b.*")) {
                int end = i;
                while (end < lines.size() && !lines.get(end).equals(matcher.group(1) + "}")) {
                    end++;
                }
                methods++;
                DUE.is("short: " + lines.get(i).trim(), end - i <= 60, true);
                DUE.is("few parameters: " + lines.get(i).trim(), matcher.group(2).split(",").length <= 7, true);
            }
        }
        DUE.is("methods were looked at: " + methods, methods > 100, true);
    }

    private static void fields(Class<?> c) {
        int fields = 0;
        for (Field f : c.getDeclaredFields()) {
            boolean constant = Modifier.isStatic(f.getModifiers());
            fields += constant ? 0 : 1;
            DUE.is("no static state: " + f, !constant || Modifier.isFinal(f.getModifiers()), true);
        }
        DUE.is("some twenty fields in " + c, fields <= 20, true);
    }
}
