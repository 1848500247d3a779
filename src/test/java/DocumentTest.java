import java.util.ArrayList;
import java.util.Arrays;
import java.util.List;
import java.util.regex.Matcher;
import java.util.regex.Pattern;

/**
 * Each word of the document stands in a sentence that a test quotes and tries, and each quote
 * stands just once in what the document says of its promise. FaceTest has the public face;
 * 'Not promised' promises nothing.
 */
public final class DocumentTest {
    private static final Pattern WORD = Pattern.compile("[A-Za-z0-9]+");
    private static final int PROMISES = 15;
    // nothing is due there
    private static final String FREE = "what later calls answer is free";

    private static final Check CHECK = new Check("DocumentTest");

    public static void main(String[] args) {
        CallsBoundsTest.main(args);
        WaysBoundsTest.main(args);
        SentencesTest.main(args);
        List<Section> sections = sectionsOfTheDocument();
        for (Sentence.Quote quote : Sentence.tried()) {
            int found = quoted(sections, quote);
            CHECK.same("places of \"" + quote.words() + "\" for promise " + quote.promise(),
                    Integer.toString(found), "1");
        }
        for (Section section : sections) {
            section.mark(FREE);
            CHECK.same(section.title + " without a test", section.unquoted().toString(), "[]");
        }
        CHECK.same("sections", Integer.toString(sections.size()), Integer.toString(2 + PROMISES));
        CHECK.end();
    }

    private static int quoted(List<Section> sections, Sentence.Quote quote) {
        int found = 0;
        for (Section section : sections) {
            if (!section.isAPromise() || section.title.startsWith("Promise " + quote.promise() + ":")) {
                found += section.mark(quote.words());
            }
        }
        return found;
    }

    private static List<Section> sectionsOfTheDocument() {
        List<Section> sections = new ArrayList<>();
        for (String part : String.join("\n", TextFile.linesOf(TextFile.DOCUMENT)).split("\n## ")) {
            int end = part.indexOf('\n');
            Section section = new Section(part.substring(0, end), part.substring(end));
            if (section.isAPromise() || section.title.equals("What it is")
                    || section.title.equals("Terms")) {
                sections.add(section);
            }
        }
        return sections;
    }

    private static final class Section {
        private final String title;
        private final String text;
        private final boolean[] quoted;

        Section(String title, String body) {
            this.title = title;
            // without the marks of a block, and without the head of a promise, which is the face's
            text = body.replaceAll("```[a-z]*", "").replaceAll("\\s+", " ").replaceFirst("^ `[^`]*`: ", "");
            quoted = new boolean[text.length()];
        }

        boolean isAPromise() {
            return title.startsWith("Promise ");
        }

        /** How often the words stand here. */
        int mark(String words) {
            int found = 0;
            for (int at = text.indexOf(words); at >= 0; at = text.indexOf(words, at + 1)) {
                Arrays.fill(quoted, at, at + words.length(), true);
                found++;
            }
            return found;
        }

        List<String> unquoted() {
            List<String> words = new ArrayList<>();
            Matcher word = WORD.matcher(text);
            while (word.find()) {
                if (!quoted[word.start()] || !quoted[word.end() - 1]) {
                    words.add(word.group());
                }
            }
            return words;
        }
    }
}
