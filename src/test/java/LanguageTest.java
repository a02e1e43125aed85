import java.io.IOException;
import java.nio.file.Files;
import java.nio.file.Path;
import java.util.HashSet;
import java.util.List;
import java.util.Set;
import java.util.regex.Matcher;
import java.util.regex.Pattern;

/** Rules of LANGUAGE.md that can be seen in the program's text. */
public final class LanguageTest {
    private static final Check CHECK = new Check("LanguageTest");
    private static final String[] FORBIDDEN = {
        "catch", "finally", "try", "synchronized", "assert", "->", "::", "Exact", "Float\\.", "Double\\.", "String\\.format",
        "getMessage", "hashCode", "toString", "float\\[", "protected", "Random", "System\\.(?!arraycopy)", "Thread", "package",
    };
    private static final Pattern METHOD = Pattern.compile("^ +(public |private )?(static )?[\\w\\[\\]]+ (\\w+)\\(([^)]*)\\).*");

    /** A name of the library with what is used of it; names of the program's own classes are left out. */
    private static final Pattern LIBRARY = Pattern.compile("(?<![\\w.])([A-Z][a-z]\\w*)\\.(\\w+)(\\(?)");
    private static final Set<String> ALLOWED = Set.of("Arrays.fill(", "Arrays.copyOf(", "Arrays.copyOfRange(", "System.arraycopy(");

    public static void main(String[] args) throws IOException {
        List<String> lines = Files.readAllLines(Path.of("src/main/java/BusBridge.java"));
        forbiddenWords(lines);
        imports(lines);
        library(lines);
        staticFields(lines);
        methods(lines);
        CHECK.end();
    }

    private static String code(String line) {
        String trimmed = line.trim();
        boolean comment = trimmed.startsWith("//") || trimmed.startsWith("/*") || trimmed.startsWith("*");
        return comment ? "" : line.replaceAll("\"[^\"]*\"", "\"\"");
    }

    private static void forbiddenWords(List<String> lines) {
        for (int i = 0; i < lines.size(); i++) {
            for (String word : FORBIDDEN) {
                boolean found = Pattern.compile("(?<![A-Za-z])" + word).matcher(code(lines.get(i))).find()
                        || word.equals("Exact") && code(lines.get(i)).contains(word);
                CHECK.due("line " + (i + 1) + " has " + word, found, false);
            }
            for (char sign : lines.get(i).toCharArray()) {
                CHECK.due("line " + (i + 1) + " has a sign above 127", sign > 127, false);
            }
        }
    }

    private static void imports(List<String> lines) {
        for (String line : lines) {
            if (line.startsWith("import")) {
                CHECK.dueText("import", line, "import java.util.Arrays;");
            }
        }
    }

    /** Rule 4: of Integer, Long and Math the functions, not the constants; of the others what the rule names. */
    private static void library(List<String> lines) {
        Set<String> own = ownClasses(lines);
        for (int i = 0; i < lines.size(); i++) {
            Matcher matcher = LIBRARY.matcher(lines.get(i).startsWith("import") ? "" : code(lines.get(i)));
            while (matcher.find()) {
                boolean function = matcher.group(1).matches("Integer|Long|Math") && matcher.group(3).equals("(");
                boolean allowed = own.contains(matcher.group(1)) || function || ALLOWED.contains(matcher.group());
                CHECK.due("line " + (i + 1) + " may use " + matcher.group(), allowed, true);
            }
        }
    }

    private static Set<String> ownClasses(List<String> lines) {
        Set<String> own = new HashSet<>();
        for (String line : lines) {
            Matcher matcher = Pattern.compile("^ *(?:public |private |static |final )*class (\\w+) .*").matcher(line);
            if (matcher.matches()) {
                own.add(matcher.group(1));
            }
        }
        CHECK.due("at most some twelve classes", own.size() > 12, false);
        return own;
    }

    private static void staticFields(List<String> lines) {
        for (String line : lines) {
            boolean field = code(line).contains("static ") && code(line).endsWith(";");
            CHECK.due("a static field that can change: " + line, field && !line.contains(" final "), false);
        }
    }

    private static void methods(List<String> lines) {
        Set<String> faces = new HashSet<>();
        for (String line : lines) {
            Matcher matcher = METHOD.matcher(line);
            if (line.startsWith("    public ") && matcher.matches()) {
                faces.add(matcher.group(3));
            }
        }
        CHECK.due("methods of the face, with the constructor", faces.size(), 34);
        for (int i = 0; i < lines.size(); i++) {
            Matcher matcher = METHOD.matcher(lines.get(i));
            boolean head = matcher.matches() && (lines.get(i).endsWith("{") || lines.get(i).startsWith("    public"));
            if (head && !lines.get(i).matches(".*(else|return|new|for|if|while|switch) .*\\(.*") ) {
                String indent = lines.get(i).replaceAll("\\S.*", "");
                CHECK.due("parameters of " + matcher.group(3), matcher.group(4).split(",").length > 7, false);
                CHECK.due("lines of " + matcher.group(3), length(lines, i, indent) > 60, false);
                boolean own = !lines.get(i).startsWith("    public ");
                CHECK.due("an own method has a name of the face: " + matcher.group(3), own && faces.contains(matcher.group(3)), false);
            }
        }
    }

    private static int length(List<String> lines, int from, String indent) {
        int i = from;
        while (i < lines.size() && !lines.get(i).equals(indent + "}")) {
            i++;
        }
        return i - from + 1;
    }
}
