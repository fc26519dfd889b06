import java.io.IOException;
import java.nio.file.Files;
import java.nio.file.Path;

/** The terms and promises of the document: each stretch of words is the name of a test, and none is left out. */
final class Sentences {
    private static final Path DOCUMENT = Path.of("../shared/DOC.md");

    private final Check check = new Check();
    private final String document;
    private final boolean[] quoted;
    private String latest = "";

    Sentences() throws IOException {
        String text = Files.readString(DOCUMENT);
        document = plain(between(text, "An object is used", "## The public face") + between(text, "## Terms", "## Not promised"));
        quoted = new boolean[document.length()];
    }

    private static String between(String text, String begin, String end) {
        int from = text.indexOf(begin);
        int to = text.indexOf(end);
        return from < 0 || to < from ? "" : text.substring(from, to);
    }

    /** Without headings, fences, numbers of terms and marks: the words alone, one blank between two of them. */
    private static String plain(String text) {
        return text.replaceAll("(?m)^(#|```).*$", "").replaceAll("(?m)^(I|II|III|IV)\\. ", "")
                .replace("`", "").replaceAll("\\s+", " ").trim();
    }

    /** What is due from now on is due by these words; they stand behind no words that are quoted already. */
    void about(String words) {
        latest = words;
        int at = document.indexOf(words);
        while (at >= 0 && quoted[at]) {
            at = document.indexOf(words, at + 1);
        }
        check.due("the document has '" + words + "'", at >= 0 ? 1 : 0, 1);
        for (int i = at; at >= 0 && i < at + words.length(); i++) {
            quoted[i] = true;
        }
    }

    void due(String call, long got, long want) {
        check.due("'" + latest + "': " + call, got, want);
    }

    /** A call that can be refused: status() tells the same. */
    void refused(TraitHouse house, String call, int got, int code) {
        due(call, got, code);
        due("status() after " + call, house.status(), code);
    }

    void finish() {
        int at = 0;
        while (at < quoted.length) {
            int from = at;
            while (at < quoted.length && quoted[at] == quoted[from]) {
                at++;
            }
            String stretch = document.substring(from, at).trim();
            boolean left = !quoted[from] && !stretch.isEmpty();
            check.due("a test of '" + stretch + "'", left ? 0 : 1, 1);
        }
        check.finish();
    }
}
