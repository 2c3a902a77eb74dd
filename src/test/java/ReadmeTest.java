import java.io.IOException;
import java.nio.file.Files;
import java.nio.file.Path;
import java.util.ArrayList;
import java.util.List;
import java.util.regex.Matcher;
import java.util.regex.Pattern;

/** README.md tells of each method in the document's words, and its example answers what it says. */
public final class ReadmeTest {
    private static final Path README = Path.of("README.md");
    private static final int PROMISES = 20;
    private static final Pattern EXAMPLE_LINE = Pattern.compile("(?m)^catalogue\\.(.*); +// (-?\\w+)");
    private static final Check CHECK = new Check();

    public static void main(String[] args) throws IOException {
        String readme = Files.readString(README);
        eachMethod(readme);
        whatThrowsLeavesBehind(readme);
        theExample(readme);
        CHECK.end();
    }

    /** Lines may be broken elsewhere. */
    private static String oneLine(String text) {
        return text.replaceAll("\\s+", " ");
    }

    /** What stands between a headline and the next one. */
    private static String part(String readme, String headline) {
        int start = readme.indexOf("\n" + headline + "\n");
        if (start < 0) {
            return "";
        }
        int from = start + headline.length() + 1;
        int end = readme.indexOf("\n#", from);
        return readme.substring(from, end < 0 ? readme.length() : end);
    }

    private static void eachMethod(String readme) throws IOException {
        Document document = new Document();
        for (int promise = 1; promise <= PROMISES; promise++) {
            String section = "Promise " + promise;
            String part = oneLine(part(readme, "#### " + document.titleOf(section)));
            List<String> lines = document.linesOf(section);
            CHECK.due(section + " has lines", true, () -> !lines.isEmpty());
            for (String line : lines) {
                CHECK.due(section + ", \"" + line + "\" stands in README.md", true, () -> part.contains(line));
            }
        }
    }

    private static void whatThrowsLeavesBehind(String readme) throws IOException {
        Document document = new Document();
        String part = oneLine(part(readme, "## What a call that throws leaves behind"));
        List<String> terms = document.linesOf("Terms").stream().filter(line -> line.startsWith("A call that throws")).toList();
        CHECK.due("lines of the document of calls that throw", 1, () -> terms.size());
        for (String line : terms) {
            CHECK.due("\"" + line + "\" stands in README.md", true, () -> part.contains(line));
        }
    }

    /** Each line of the example says the answer of its call first. */
    private static void theExample(String readme) {
        Matcher line = EXAMPLE_LINE.matcher(part(readme, "## How to use it"));
        List<String> said = new ArrayList<>();
        while (line.find()) {
            said.add(line.group(1) + ": " + line.group(2));
        }
        CHECK.compare("the example", String.join("\n", said), String.join("\n", answersOfTheExample()));
    }

    private static List<String> answersOfTheExample() {
        PhraseCatalogue catalogue = new PhraseCatalogue();
        List<String> all = new ArrayList<>();
        all.add("sign(12): " + catalogue.sign(12));
        all.add("sign(101): " + catalogue.sign(101));
        all.add("set(0, 0, 2, 0, false): " + catalogue.set(0, 0, 2, 0, false));
        all.add("sign(101): " + catalogue.sign(101));
        all.add("sign(34): " + catalogue.sign(34));
        all.add("set(0, 1, 2, 0, false): " + catalogue.set(0, 1, 2, 0, false));
        all.add("setFallback(2, 1): " + catalogue.setFallback(2, 1));
        all.add("toldBy(0, 2, 5, 0): " + catalogue.toldBy(0, 2, 5, 0));
        all.add("toldForm(0, 2, 5, 0): " + catalogue.toldForm(0, 2, 5, 0));
        all.add("toldSign(0, 2, 5, 0, 1): " + catalogue.toldSign(0, 2, 5, 0, 1));
        all.add("sign(12): " + catalogue.sign(12));
        all.add("sign(102): " + catalogue.sign(102));
        all.add("set(0, 0, 2, 0, false): " + catalogue.set(0, 0, 2, 0, false));
        all.add("staleBy(0, 1): " + catalogue.staleBy(0, 1));
        all.add("fits(0, 1, 2, 0): " + catalogue.fits(0, 1, 2, 0));
        all.add("toldBy(0, 2, 5, 0): " + catalogue.toldBy(0, 2, 5, 0));
        all.add("pairs(): " + catalogue.pairs());
        all.add("nearDistance(0, 1, 2, 0): " + catalogue.nearDistance(0, 1, 2, 0));
        all.add("nearSign(0, 1, 2, 0, 1): " + catalogue.nearSign(0, 1, 2, 0, 1));
        return all;
    }
}
