import java.io.IOException;
import java.nio.file.Files;
import java.nio.file.Path;
import java.util.regex.Matcher;
import java.util.regex.Pattern;

/** The document's words: each one that is checked is marked, so that none is left out. */
final class Doc {
    private final boolean here;
    private final String text;
    private final boolean[] marked;
    private final int terms;
    private final int end;

    Doc(String path) throws IOException {
        // The edges can be tested without the document; then only its words are not compared.
        here = Files.exists(Path.of(path));
        text = here ? Files.readString(Path.of(path)).replaceAll("\\s+", " ") : "";
        marked = new boolean[text.length()];
        terms = text.indexOf("## Terms");
        end = text.indexOf("## Not promised");
        if (here) {
            Check.holds("the document has its parts", terms >= 0 && end > terms);
        } else {
            System.out.println(path + " is not here, so its words are not compared");
        }
    }

    /** What is checked next is said in these words of the terms. */
    void terms(String words) {
        mark("Terms", terms, text.indexOf("## Promise 1:"), words);
    }

    /** What is checked next is said in these words of a promise. */
    void promise(int number, String words) {
        int from = text.indexOf("## Promise " + number + ":");
        int to = text.indexOf("## Promise " + (number + 1) + ":");
        mark("Promise " + number, from, to < 0 ? end : to, words);
    }

    private void mark(String part, int from, int to, String words) {
        Check.about(part + ": " + words);
        if (!here) {
            return;
        }
        int at = text.indexOf(words, from);
        boolean said = at >= 0 && at + words.length() <= to;
        Check.holds("the document says so", said);
        for (int i = at; said && i < at + words.length(); i++) {
            marked[i] = true;
        }
    }

    /** Headings, the face of a call and what tells of its groups promise nothing by themselves. */
    void checkThatAllIsMarked() {
        Check.about("each sentence has a test of its own");
        if (!here) {
            return;
        }
        String bare = "## Terms|## Promise \\d+: [\\w ]+ (?=`)|`[^`]*`:|```text|```|={8} \\d"
            + "|Ahead of the calls .*? the interface says: ---- [\\w, ]+\\.";
        Matcher m = Pattern.compile(bare).matcher(text).region(terms, end);
        while (m.find()) {
            for (int i = m.start(); i < m.end(); i++) {
                marked[i] = true;
            }
        }
        StringBuilder left = new StringBuilder();
        for (int i = terms; i < end; i++) {
            left.append(marked[i] ? '\n' : text.charAt(i));
        }
        for (String words : left.toString().split("\n+")) {
            Check.holds("there is no test of: " + words, words.isBlank());
        }
    }
}
