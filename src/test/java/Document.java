import java.io.IOException;
import java.nio.file.Files;
import java.nio.file.Path;
import java.util.ArrayList;
import java.util.BitSet;
import java.util.List;
import java.util.regex.Matcher;
import java.util.regex.Pattern;

/** The document in sections, the terms (0) and the promises (1 .. 40), and what of it tests have cited. */
final class Document {
    private static final Path PATH = Path.of("../shared/DOC.md");
    private static final Pattern WORD = Pattern.compile("\\w+");

    private final String whole;
    private final List<String> sections = new ArrayList<>();
    private final List<BitSet> cited = new ArrayList<>();

    Document() throws IOException {
        whole = Files.readString(PATH);
        add(between("An object is used", "## The public face") + between("## Terms", "Ahead of the calls").substring(8));
        String[] parts = between("## Promise 1:", "## Not promised").split("## Promise \\d+: ");
        for (int k = 1; k < parts.length; k++) {
            add(parts[k].substring(parts[k].indexOf("`: ") + 3));
        }
    }

    private String between(String from, String to) {
        int at = whole.indexOf(from);
        return whole.substring(at, whole.indexOf(to, at));
    }

    private void add(String section) {
        // These rows begin and end a block, and say nothing.
        String told = section.replace("```text", " ").replace("```", " ");
        sections.add(told.replaceAll("\\s+", " ").trim());
        cited.add(new BitSet());
    }

    /** The rows of the public face that begin with public, but for that of the class. */
    List<String> face() {
        List<String> rows = new ArrayList<>();
        for (String row : between("```java", "## Terms").split("\n")) {
            if (row.startsWith("    public ")) {
                rows.add(row.trim());
            }
        }
        return rows;
    }

    int promises() {
        return sections.size() - 1;
    }

    /** Whether the words stand, once, in the promise or in the terms. */
    boolean cite(int promise, String words) {
        return citeIn(promise, words) || citeIn(0, words);
    }

    private boolean citeIn(int section, String words) {
        String text = sections.get(section);
        int from = text.indexOf(words);
        if (from < 0 || from != text.lastIndexOf(words)) {
            return false;
        }
        cited.get(section).set(from, from + words.length());
        return true;
    }

    /** The runs of words of a section that no test has cited. */
    List<String> uncited(int section) {
        List<String> runs = new ArrayList<>();
        String text = sections.get(section);
        Matcher word = WORD.matcher(text);
        int from = -1;
        int to = 0;
        while (word.find()) {
            boolean isCited = cited.get(section).get(word.start());
            if (isCited && from >= 0) {
                runs.add(text.substring(from, to));
                from = -1;
            }
            if (!isCited) {
                from = from < 0 ? word.start() : from;
                to = word.end();
            }
        }
        if (from >= 0) {
            runs.add(text.substring(from, to));
        }
        return runs;
    }
}
