import java.io.File;
import java.io.IOException;
import java.nio.file.Files;
import java.nio.file.Path;
import java.util.HashMap;
import java.util.Map;
import java.util.Set;
import java.util.TreeSet;
import java.util.regex.Matcher;
import java.util.regex.Pattern;

/** What README.md says of the class and of its tests is so; run from the project's directory. */
public final class ReadmeTest {
    private static final Pattern LINE =
        Pattern.compile("(?:int (\\w) = )?x\\.(\\w+)\\(([^)]*)\\); +// (throws \\w+|-?\\w+)(:.*)?");
    private static final String START = "TermWeaver x = new TermWeaver();";
    private static final Set<String> CALLS = Set.of("variable", "term", "unify", "why", "undo", "count", "same",
        "leader", "size", "depth", "variables", "at", "matches", "common");

    private static int wrong = 0;

    public static void main(String[] args) throws IOException {
        String text = Files.readString(Path.of("README.md"));
        checkExample(text);
        checkTests(text);
        System.out.println(wrong == 0 ? "README.md is right" : wrong + " faults in README.md");
        if (wrong != 0) {
            System.exit(1);
        }
    }

    private static void due(String what, Object got, Object want) {
        if (!want.equals(got)) {
            wrong++;
            System.out.println(what + ": " + got + ", due is " + want);
        }
    }

    private static void checkExample(String text) {
        int start = text.indexOf("```java\n" + START);
        due("an example is found", start >= 0, true);
        String example = text.substring(start + 8, text.indexOf("```", start + 8));
        TermWeaver x = new TermWeaver();
        Map<String, Integer> names = new HashMap<>();
        Set<String> used = new TreeSet<>();
        for (String line : example.split("\n")) {
            if (line.equals(START)) {
                continue;
            }
            Matcher parts = LINE.matcher(line);
            due("a call with its answer in " + line, parts.matches(), true);
            if (parts.matches()) {
                due(line, answer(x, parts, names), parts.group(4));
                used.add(parts.group(2));
            }
        }
        due("the calls in the example", used, new TreeSet<>(CALLS));
    }

    private static String answer(TermWeaver x, Matcher parts, Map<String, Integer> names) {
        try {
            Object got = called(x, parts.group(2), arguments(parts.group(3), names));
            if (parts.group(1) != null) {
                names.put(parts.group(1), (Integer) got);
            }
            return String.valueOf(got);
        } catch (RuntimeException e) {
            return "throws " + e.getClass().getSimpleName();
        }
    }

    private static int[] arguments(String list, Map<String, Integer> names) {
        String[] words = list.isEmpty() ? new String[0] : list.split(", ");
        int[] numbers = new int[words.length];
        for (int i = 0; i < words.length; i++) {
            numbers[i] = names.containsKey(words[i]) ? names.get(words[i]) : Integer.parseInt(words[i]);
        }
        return numbers;
    }

    private static Object called(TermWeaver x, String name, int[] n) {
        switch (name) {
            case "variable": return x.variable();
            case "term": return x.term(n[0], n[1], n[2]);
            case "unify": return x.unify(n[0], n[1]);
            case "why": return x.why();
            case "undo": return x.undo(n[0]);
            case "count": return x.count(n[0]);
            case "same": return x.same(n[0], n[1]);
            case "leader": return x.leader(n[0]);
            case "size": return x.size(n[0]);
            case "depth": return x.depth(n[0]);
            case "variables": return x.variables(n[0]);
            case "at": return x.at(n[0], n[1]);
            case "matches": return x.matches(n[0], n[1]);
            case "common": return x.common(n[0], n[1]);
            default: return "no call of the class";
        }
    }

    private static void checkTests(String text) {
        File[] tests = new File("src/test/java").listFiles();
        due("tests are found", tests != null && tests.length > 0, true);
        for (File test : tests == null ? new File[0] : tests) {
            String name = test.getName().replace(".java", "");
            due("README.md names " + name, text.contains("- `" + name + "`:"), true);
        }
    }
}
