import java.io.IOException;
import java.nio.file.Files;
import java.nio.file.Path;
import java.util.ArrayList;
import java.util.Arrays;
import java.util.List;

/** The document in sections, the description (0) and the promises (1 to 34), and what was quoted of it. */
final class Document {
    private static final int SECTIONS = 35;

    private final String[] sections = new String[SECTIONS];
    private final String[] unquoted = new String[SECTIONS];
    private final boolean isThere;

    /** Where the document is missing, the cases are tested without looking at its words. */
    Document(Path file) throws IOException {
        Arrays.fill(sections, "");
        isThere = Files.exists(file);
        if (!isThere) {
            System.out.println("no document at " + file + ": its words are not compared");
        }
        int section = -1;
        for (String line : isThere ? Files.readAllLines(file) : List.<String>of()) {
            if (line.startsWith("## ")) {
                section = sectionOf(line);
            } else if (section >= 0 && !isSignature(line)) {
                sections[section] += " " + line;
            }
        }
        for (int i = 0; i < SECTIONS; i++) {
            sections[i] = withSingleSpaces(sections[i]);
            unquoted[i] = sections[i];
        }
    }

    private static int sectionOf(String title) {
        if (title.equals("## Description") || title.equals("## What it is")) {
            return 0;
        }
        return title.startsWith("## Promise ") ? Integer.parseInt(title.substring(11, title.indexOf(':'))) : -1;
    }

    /** FaceTest looks at the signatures. */
    private static boolean isSignature(String line) {
        return line.startsWith("`");
    }

    private static String withSingleSpaces(String text) {
        return text.replaceAll("\\s+", " ").trim();
    }

    /** Returns whether the section has these words. */
    boolean quote(int section, String words) {
        unquoted[section] = unquoted[section].replace(words, " | ");
        return !isThere || sections[section].contains(words);
    }

    /** What nobody has quoted, with its section. */
    List<String> rest() {
        List<String> rest = new ArrayList<>();
        for (int i = 0; i < SECTIONS; i++) {
            for (String part : unquoted[i].split("\\|")) {
                if (part.matches(".*[A-Za-z0-9].*")) {
                    rest.add(i + ": " + part.trim());
                }
            }
        }
        return rest;
    }
}
