import java.io.IOException;
import java.lang.reflect.Method;
import java.nio.file.Files;
import java.nio.file.Path;
import java.util.HashMap;
import java.util.HashSet;
import java.util.Map;
import java.util.Set;
import java.util.regex.Matcher;
import java.util.regex.Pattern;

/** README.md: its lines of code answer what is said behind them, and each call stands there with its promise. */
public final class ReadmeTest {
    private static final Check CHECK = new Check();
    private static final Pattern CALL =
            Pattern.compile("(?m)^(?:int (\\w+) = )?house\\.(\\w+)\\(([^)]*)\\); +// (-?\\d+|TraitHouse\\.LACK)\\b");
    private static final Pattern PROMISE = Pattern.compile("(?m)^## Promise (\\d+): .*\\s+`([^`]*)`");

    public static void main(String[] args) throws ReflectiveOperationException, IOException {
        String readme = Files.readString(Path.of("README.md"));
        example(readme);
        calls(readme, Files.readString(Path.of("../shared/DOC.md")));
        texts(readme);
        tests(readme);
        CHECK.finish();
    }

    private static void example(String readme) throws ReflectiveOperationException {
        int begin = readme.indexOf("```java");
        String code = readme.substring(begin, readme.indexOf("```", begin + 3));
        int lines = 0;
        for (String line : code.split("\n")) {
            lines += line.contains("house.") ? 1 : 0;
        }
        TraitHouse house = new TraitHouse();
        Map<String, Long> names = new HashMap<>();
        Matcher found = CALL.matcher(code);
        int made = 0;
        while (found.find()) {
            long answer = make(house, found.group(2), found.group(3).split(", *"), names);
            boolean lack = found.group(4).startsWith("T");
            CHECK.due("README: " + found.group(), answer, lack ? TraitHouse.LACK : Long.parseLong(found.group(4)));
            names.put(found.group(1), answer);
            made++;
        }
        CHECK.due("README: lines of code with an answer", made, lines);
        CHECK.due("README: there are lines of code", lines > 0 ? 1 : 0, 1);
    }

    private static long make(TraitHouse house, String name, String[] words, Map<String, Long> names)
            throws ReflectiveOperationException {
        for (Method each : TraitHouse.class.getMethods()) {
            if (each.getName().equals(name)) {
                Class<?>[] types = each.getParameterTypes();
                Object[] numbers = new Object[types.length];
                for (int i = 0; i < types.length; i++) {
                    long number = names.containsKey(words[i]) ? names.get(words[i]) : Long.decode(words[i]);
                    if (types[i] == int.class) {
                        numbers[i] = (int) number;
                    } else {
                        numbers[i] = number;
                    }
                }
                return ((Number) each.invoke(house, numbers)).longValue();
            }
        }
        throw new NoSuchMethodException(name);
    }

    private static void calls(String readme, String document) {
        Matcher found = PROMISE.matcher(document);
        int promises = 0;
        while (found.find()) {
            String row = "(?m)^\\| `" + Pattern.quote(found.group(2)) + "` \\|.*\\| " + found.group(1) + " \\|$";
            boolean stands = Pattern.compile(row).matcher(readme).find();
            CHECK.due("README: " + found.group(2) + " with promise " + found.group(1), stands ? 1 : 0, 1);
            promises++;
        }
        CHECK.due("promises of the document", promises, 27);
    }

    /** The texts of traits, each with what it is behind it; the first one is trait 0, which the others read. */
    private static void texts(String readme) {
        int begin = readme.indexOf("```text\nsum 0");
        String[] lines = readme.substring(begin, readme.indexOf("```", begin + 3)).split("\n");
        TraitHouse house = new TraitHouse();
        for (int i = 1; i < lines.length; i++) {
            String text = lines[i].replaceAll("   .*", "");
            CHECK.due("README: " + text, Check.trait(house, text), i - 1);
        }
        house.row(0, 0, 10, 10, 35);
        long[][] due = {{35, 35 / 3, 3}, {TraitHouse.LACK, TraitHouse.LACK, 3}, {35, TraitHouse.LACK, 3}, {35, 17, 15}};
        for (int trait = 0; trait < 3; trait++) {
            CHECK.due("README: without a row of stream 1", house.value(trait, 0, 10, 10), due[0][trait]);
            CHECK.due("README: without a value of trait 0", house.value(trait, 0, 21, 21), due[1][trait]);
        }
        house.row(0, 1, 10, 10, 1);
        for (int trait = 0; trait < 3; trait++) {
            CHECK.due("README: with an age of 0", house.value(trait, 0, 10, 10), due[2][trait]);
            CHECK.due("README: with an age of 2", house.value(trait, 0, 12, 12), due[3][trait]);
        }
    }

    private static void tests(String readme) throws IOException {
        Set<String> told = new HashSet<>();
        Matcher found = Pattern.compile("`(\\w+Test)`").matcher(readme);
        while (found.find()) {
            told.add(found.group(1));
        }
        Set<String> there = new HashSet<>();
        try (var files = Files.list(Path.of("src/test/java"))) {
            files.map(each -> each.getFileName().toString()).filter(each -> each.endsWith("Test.java"))
                    .forEach(each -> there.add(each.replace(".java", "")));
        }
        CHECK.due("README: the tests " + there + " are told as " + told, told.equals(there) ? 1 : 0, 1);
    }
}
