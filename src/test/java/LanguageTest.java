import java.io.IOException;
import java.nio.file.Files;
import java.nio.file.Path;
import java.util.regex.Matcher;
import java.util.regex.Pattern;

/** Some rules of LANGUAGE.md that the text of the program shows. */
public final class LanguageTest {
    private static final Check CHECK = new Check();

    private static final String[] OUTSIDE = {
        "\\b(throw|throws|try|catch|finally|synchronized|assert|native|volatile|transient|protected)\\b",
        "->", "::", "\\bimport (?!java\\.util\\.(Arrays|ArrayList|List|Iterator);)", "\\bpackage\\b",
        "\\bSystem\\.", "\\b\\w+Exact\\b", "\\bstatic (?!final |boolean |int |long |void )",
        "\\bObject\\b", "\\bException\\b", "\\.(hashCode|toString|getClass)\\(", "@", "\\bstatic \\{",
    };

    public static void main(String[] args) throws IOException {
        String source = Files.readString(Path.of("src/main/java/TraitHouse.java"));
        CHECK.due("a class", source.contains("public final class TraitHouse {") ? 1 : 0, 1);
        String code = source.replaceAll("(?s)/\\*.*?\\*/", "").replaceAll("//[^\n]*", "").replaceAll("\"[^\"\n]*\"", "\"\"");
        for (String each : OUTSIDE) {
            Matcher found = Pattern.compile(each).matcher(code);
            CHECK.due(each, found.find() ? found.start() : -1, -1);
        }
        parameters(code);
        lengths(code);
        CHECK.finish();
    }

    private static void parameters(String code) {
        Matcher head = Pattern.compile("\\b(?:public|private)[\\w\\[\\] ]* (\\w+)\\(([^)]*)\\) \\{").matcher(code);
        while (head.find()) {
            CHECK.due("parameters of " + head.group(1), head.group(2).split(",").length > 7 ? 1 : 0, 0);
        }
    }

    private static void lengths(String code) {
        String[] lines = code.split("\n");
        for (int i = 0; i < lines.length; i++) {
            String line = lines[i];
            if (line.endsWith(") {") && line.matches(" +(public|private) .*")) {
                String end = line.replaceAll("\\S.*", "") + "}";
                int length = 0;
                while (i + length < lines.length && !lines[i + length].equals(end)) {
                    length++;
                }
                CHECK.due("length of " + line.trim(), length > 60 ? length : 0, 0);
            }
        }
    }
}
