import java.io.IOException;
import java.nio.file.Files;
import java.nio.file.Path;
import java.util.ArrayList;
import java.util.LinkedHashMap;
import java.util.List;
import java.util.Map;
import java.util.regex.Matcher;
import java.util.regex.Pattern;

/** The document's lines and sentences by its sections, which of these a test has quoted, and its face. */
final class Document {
    private static final Path PLACE = Path.of("..", "shared", "DOC.md");
    private static final Pattern METHOD = Pattern.compile(" +public (\\w+ \\w+)(\\(.*\\))(.*);");

    private static final class Section {
        String title = "";
        final List<String> lines = new ArrayList<>();
        final StringBuilder text = new StringBuilder();
        final List<String> sentences = new ArrayList<>();
        final List<String> quotes = new ArrayList<>();
    }

    private final Map<String, Section> sections = new LinkedHashMap<>();

    Document() throws IOException {
        Section at = null;
        for (String line : Files.readAllLines(PLACE)) {
            if (line.startsWith("#")) {
                at = sectionOf(line);
            } else if (at != null && !line.isBlank()) {
                at.lines.add(line);
                at.text.append(line).append('\n');
                addSentences(at, line);
            }
        }
    }

    /** Null for the sections that promise no answers: the face has a test of its own. */
    private Section sectionOf(String headline) {
        String name = headline.replaceFirst("^#+ ", "").replaceFirst(":.*", "");
        if (!name.equals("What it is") && !name.equals("Terms") && !name.startsWith("Promise ")) {
            return null;
        }
        Section section = sections.computeIfAbsent(name, unused -> new Section());
        section.title = headline.replaceFirst("^[^:]*: ?", "");
        return section;
    }

    /** What a promise's headline says behind its number. */
    String titleOf(String section) {
        return sections.containsKey(section) ? sections.get(section).title : "";
    }

    List<String> linesOf(String section) {
        return sections.containsKey(section) ? sections.get(section).lines : List.of();
    }

    /** The methods of the public face, without "public" and the names of the arguments. */
    static List<String> methodsOfTheFace() throws IOException {
        List<String> methods = new ArrayList<>();
        for (String line : Files.readAllLines(PLACE)) {
            Matcher method = METHOD.matcher(line);
            if (method.matches()) {
                methods.add(method.group(1) + method.group(2).replaceAll("(\\w+) \\w+", "$1") + method.group(3));
            }
        }
        return methods;
    }

    /** The headlines of the interface, and the words ahead of a paragraph ("Numbers."), are no sentences to test. */
    private static void addSentences(Section section, String line) {
        if (line.startsWith("Ahead of the calls") && !line.contains("nothing from here on")) {
            return;
        }
        for (String sentence : line.split("(?<=\\.\\)?) (?=[A-Z(])")) {
            if (sentence.split(" ").length > 2) {
                section.sentences.add(sentence);
            }
        }
    }

    /** Whether these words stand in a section, which has a test for them then. */
    boolean quote(String name, String words) {
        Section section = sections.get(name);
        if (section == null || section.text.indexOf(words) < 0) {
            return false;
        }
        section.quotes.add(words);
        return true;
    }

    List<String> sentencesWithoutTest() {
        List<String> left = new ArrayList<>();
        for (Map.Entry<String, Section> section : sections.entrySet()) {
            for (String sentence : section.getValue().sentences) {
                if (section.getValue().quotes.stream().noneMatch(words -> sentence.contains(words) || words.contains(sentence))) {
                    left.add(section.getKey() + ": " + sentence);
                }
            }
        }
        return left;
    }
}
