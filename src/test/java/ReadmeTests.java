import java.lang.reflect.Method;
import java.lang.reflect.Modifier;
import java.nio.charset.StandardCharsets;
import java.nio.file.Files;
import java.nio.file.Path;
import java.util.ArrayList;
import java.util.HashMap;
import java.util.List;
import java.util.Map;
import java.util.Set;
import java.util.TreeSet;
import java.util.regex.Matcher;
import java.util.regex.Pattern;
import java.util.stream.Stream;

/**
 * README.md says what holds: each call in its examples answers what stands behind it, each call of the
 * face is shown, and its tables are whole. An example line of another form is a failure, so that
 * nothing stands there untested.
 */
final class ReadmeTests {
    private static final Pattern FENCE = Pattern.compile("```java\n(.*?)```", Pattern.DOTALL);
    private static final Pattern CALL = Pattern.compile(
        "(?:int (\\w+) = )?chain\\.(\\w+)\\(([^()]*)\\);\\s+// (-?\\w+): \\S.*");
    private static final Pattern TYPED = Pattern.compile(
        "for \\(char c : \"([^\"]*)\"\\.toCharArray\\(\\)\\) chain\\.appendCharacter\\(c\\);\\s+// (\\d+): \\S.*");
    private static final String NEW = "ColdChain chain = new ColdChain();";

    private final Map<String, Integer> names = new HashMap<>();
    private final Set<String> shown;
    private ColdChain chain = null;

    private ReadmeTests(Set<String> shown) {
        this.shown = shown;
    }

    static void run(String readme, String document, String tests) throws Exception {
        String text = Files.readString(Path.of(readme), StandardCharsets.UTF_8);
        Set<String> shown = new TreeSet<>();
        for (String[] example : examples(text)) {
            Checks.test("README.md: " + example[0], () -> new ReadmeTests(shown).follow(example[1]));
        }
        Checks.test("README.md shows each call", () -> showsEach(shown));
        Checks.test("README.md tells each call as the document does", () -> tellsEach(text, document));
        Checks.test("README.md tells the codes", () -> codes(text));
        Checks.test("README.md tells each test and how to run them", () -> tellsTests(text, tests));
    }

    /** Each with the line ahead of it as its name. */
    private static List<String[]> examples(String text) {
        List<String[]> examples = new ArrayList<>();
        Matcher block = FENCE.matcher(text);
        while (block.find()) {
            String[] ahead = text.substring(0, block.start()).strip().split("\n");
            examples.add(new String[] {ahead[ahead.length - 1], block.group(1)});
        }
        return examples;
    }

    private void follow(String example) throws Exception {
        String[] lines = example.split("\n");
        Checks.isTrue("it begins with a new object: " + lines[0], lines[0].equals(NEW));
        chain = new ColdChain();
        for (int k = 1; k < lines.length; k++) {
            Matcher called = CALL.matcher(lines[k]);
            Matcher typed = TYPED.matcher(lines[k]);
            if (called.matches()) {
                int answer = call(called.group(2), called.group(3));
                Checks.due(lines[k], answer, number(called.group(4)));
                if (called.group(1) != null) {
                    names.put(called.group(1), answer);
                }
            } else if (typed.matches()) {
                Checks.due(lines[k], type(typed.group(1)), Integer.parseInt(typed.group(2)));
            } else {
                Checks.isTrue("this line is a call with its answer: " + lines[k], false);
            }
        }
    }

    private int type(String text) {
        int answer = 0;
        for (char c : text.toCharArray()) {
            answer = chain.appendCharacter(c);
        }
        shown.add("appendCharacter");
        return answer;
    }

    private int call(String name, String arguments) throws Exception {
        String[] parts = arguments.isBlank() ? new String[0] : arguments.split(", ");
        Object[] values = new Object[parts.length];
        Class<?>[] types = new Class<?>[parts.length];
        for (int k = 0; k < parts.length; k++) {
            values[k] = number(parts[k]);
            types[k] = int.class;
        }
        shown.add(name);
        return (Integer) ColdChain.class.getMethod(name, types).invoke(chain, values);
    }

    private int number(String word) throws Exception {
        if (names.containsKey(word)) {
            return names.get(word);
        }
        return word.matches("-?\\d+") ? Integer.parseInt(word) : ColdChain.class.getField(word).getInt(null);
    }

    private static void showsEach(Set<String> shown) {
        for (Method method : ColdChain.class.getDeclaredMethods()) {
            if (Modifier.isPublic(method.getModifiers())) {
                Checks.isTrue(method.getName() + " is shown", shown.contains(method.getName()));
            }
        }
    }

    /** In the order of the document, with its names of the arguments. */
    private static void tellsEach(String text, String document) throws Exception {
        Checks.isTrue("the calls", rows(text, "call").equals(calls(document)));
    }

    private static List<String> calls(String document) throws Exception {
        List<String> calls = new ArrayList<>();
        for (String line : Files.readAllLines(Path.of(document), StandardCharsets.UTF_8)) {
            Matcher call = Pattern.compile("`int (\\w+\\([^)]*\\))`: .*").matcher(line);
            if (call.matches()) {
                calls.add(call.group(1).replace("int ", ""));
            }
        }
        Checks.due("calls of the document", calls.size(), 23);
        return calls;
    }

    private static void codes(String text) throws Exception {
        List<String> codes = rows(text, "code");
        Checks.due("codes", codes.size(), 4);
        for (String code : codes) {
            int number = ColdChain.class.getField(code).getInt(null);
            Checks.isTrue(code + " is " + number, text.contains("| `" + code + "` | " + number + " |"));
        }
    }

    private static void tellsTests(String text, String tests) throws Exception {
        String told = String.join(" ", rows(text, "test"));
        try (Stream<Path> files = Files.list(Path.of(tests))) {
            for (Path file : (Iterable<Path>) files::iterator) {
                String name = file.getFileName().toString().replace(".java", "");
                boolean own = name.matches("\\w+(Tests|Edges)") && !name.equals("AllTests");
                Checks.isTrue(name + " is told", !own || told.matches(".*\\b" + name + "\\b.*"));
            }
        }
        Checks.isTrue("how to run them", text.contains("\n```\n.ci/run\n```\n"));
    }

    /** The first column of the table with this heading, without the backquotes around it. */
    private static List<String> rows(String text, String heading) {
        List<String> rows = new ArrayList<>();
        boolean inside = false;
        for (String line : text.split("\n")) {
            if (inside && line.startsWith("| `")) {
                rows.add(line.replaceFirst("^\\| `(.*?)` \\| .*", "$1"));
            }
            inside = line.startsWith("| " + heading + " |") || inside && line.startsWith("|");
        }
        return rows;
    }
}
