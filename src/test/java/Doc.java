import java.io.IOException;
import java.nio.file.Files;
import java.nio.file.Path;
import java.util.BitSet;
import java.util.LinkedHashMap;
import java.util.Map;
import java.util.regex.Matcher;
import java.util.regex.Pattern;

/**
 * The document, cut into its sections: a test names the sentence that it is for, word by word, and
 * the words that no test names are told at the end. Runs in the project's folder.
 */
final class Doc {
    private static final Path FILE = Path.of("../shared/DOC.md");
    private static final Pattern HEADING = Pattern.compile("## (Promise \\d+|Terms|What it is|The public face|Not promised).*");
    private static final Pattern TERM = Pattern.compile("[A-Z]+(?: [A-Z]+)*");
    private static final Map<String, String> TEXTS = new LinkedHashMap<>();
    private static final Map<String, BitSet> NAMED = new LinkedHashMap<>();

    private Doc() {
    }

    /** The answers that are checked from here on are what this sentence of the section asks for. */
    static void says(String section, String sentence) {
        nothingToTest(section, sentence);
        Due.about(section + ": \"" + sentence + "\"");
    }

    /** The sentence names nothing that an answer could break. */
    static void nothingToTest(String section, String sentence) {
        Due.about("the document");
        Due.due("whether " + section + " says \"" + sentence + "\"", mark(section, sentence), 1);
    }

    /** Every word of the sections is named by a test, but for signatures and the names of arguments. */
    static void everyWordIsNamed() {
        Due.about("the document");
        for (String section : TEXTS.keySet()) {
            String text = TEXTS.get(section);
            StringBuilder left = new StringBuilder();
            for (int k = 0; k < text.length(); k++) {
                left.append(NAMED.get(section).get(k) ? ' ' : text.charAt(k));
            }
            String words = left.toString().replaceAll("[^A-Za-z0-9]+", " ").trim();
            Due.due("words of " + section + " that no test names: " + words, words.length(), 0);
        }
        Due.due("sections", TEXTS.size(), 41);
    }

    private static int mark(String section, String sentence) {
        String text = TEXTS.getOrDefault(section, "");
        int found = 0;
        for (int at = text.indexOf(sentence); at >= 0; at = text.indexOf(sentence, at + 1)) {
            NAMED.get(section).set(at, at + sentence.length());
            found = 1;
        }
        return found;
    }

    static void read() throws IOException {
        Map<String, StringBuilder> sections = new LinkedHashMap<>();
        String section = "";
        for (String line : Files.readAllLines(FILE)) {
            Matcher heading = HEADING.matcher(line);
            if (heading.matches()) {
                section = heading.group(1);
            } else if (TERM.matcher(line).matches()) {
                section = line;
            } else {
                sections.computeIfAbsent(section, name -> new StringBuilder()).append(line).append(' ');
            }
        }
        // FaceTest looks at the face; the title stands ahead of all sections.
        sections.remove("The public face");
        sections.remove("");
        sections.values().removeIf(words -> words.toString().isBlank());
        for (String name : sections.keySet()) {
            TEXTS.put(name, sections.get(name).toString().replaceAll("\\s+", " "));
            NAMED.put(name, new BitSet());
            markNames(name);
        }
    }

    private static void markNames(String section) {
        Matcher name = Pattern.compile("`[^`]*`").matcher(TEXTS.get(section));
        while (section.startsWith("Promise") && name.find()) {
            NAMED.get(section).set(name.start(), name.end());
        }
    }
}
