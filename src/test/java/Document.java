import java.io.IOException;
import java.nio.file.Files;
import java.nio.file.Path;
import java.util.ArrayList;
import java.util.BitSet;
import java.util.List;
import java.util.regex.Matcher;
import java.util.regex.Pattern;

/** The document in sections, the terms (0) and the promises (1 .. 40), and what of it tests have cited. */
final class Document {
    private static final Path PATH = Path.of("../shared/DOC.md");
    private static final Pattern BOUNDARY = Pattern.compile(
            "\\b(UNKNOWN|OUTSIDE|STATE|FULL|CAST|NULL|INDEX|SIZE|LOST|NONE|CANNOT|most|least|fewer|none)\\b|\\d+");

    private final List<String> sections = new ArrayList<>();
    private final List<BitSet> cited = new ArrayList<>();

    Document() throws IOException {
        String whole = Files.readString(PATH);
        String terms = whole.substring(whole.indexOf("## Terms"), whole.indexOf("Ahead of the calls"));
        add(terms.substring("## Terms".length()));
        String[] parts = whole.substring(0, whole.indexOf("## Not promised")).split("## Promise \\d+: ");
        for (int k = 1; k < parts.length; k++) {
            add(parts[k].substring(parts[k].indexOf("`: ") + 3));
        }
    }

    private void add(String section) {
        sections.add(section.replaceAll("\\s+", " ").trim());
        cited.add(new BitSet());
    }

    int promises() {
        return sections.size() - 1;
    }

    /** Whether the words stand, once, in the promise or in the terms. */
    boolean cite(int promise, String words) {
        return citeIn(promise, words) || citeIn(0, words);
    }

    private boolean citeIn(int section, String words) {
        String text = sections.get(section);
        int from = text.indexOf(words);
        if (from < 0 || from != text.lastIndexOf(words)) {
            return false;
        }
        cited.get(section).set(from, from + words.length());
        return true;
    }

    /** The numbers and the names of refusals of a section that no cited words hold. */
    List<String> uncited(int section) {
        List<String> uncited = new ArrayList<>();
        Matcher found = BOUNDARY.matcher(sections.get(section));
        while (found.find()) {
            if (!cited.get(section).get(found.start())) {
                int to = Math.min(found.end() + 30, sections.get(section).length());
                uncited.add(sections.get(section).substring(Math.max(0, found.start() - 30), to));
            }
        }
        return uncited;
    }
}
