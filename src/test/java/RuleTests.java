import java.lang.reflect.Constructor;
import java.lang.reflect.Field;
import java.lang.reflect.Method;
import java.lang.reflect.Modifier;
import java.nio.charset.StandardCharsets;
import java.nio.file.Files;
import java.nio.file.Path;
import java.util.ArrayList;
import java.util.Arrays;
import java.util.IdentityHashMap;
import java.util.List;
import java.util.Map;
import java.util.Set;
import java.util.TreeSet;
import java.util.regex.Matcher;
import java.util.regex.Pattern;

/** The face of the document and the rules of LANGUAGE.md, as far as a test can see them. */
final class RuleTests {
    /** Each call with the number of its arguments, all of them int, as all answers are. */
    private static final String FACE = "addVan/2 appendCharacter/1 claims/1 clearText/0 count/1 deliver/1 detour/2 "
        + "door/2 loadPallet/5 log/4 longestOpen/1 minutesLeft/1 pallet/2 pass/1 repair/2 runScript/0 setNumber/2 "
        + "setProbe/4 setVan/3 undo/0 van/2 warm/6 zone/3";

    private RuleTests() {
    }

    static void run(String source, String document) {
        Checks.test("the face of the document", RuleTests::face);
        Checks.test("the face stands in the source as in the document", () -> signatures(source, document));
        Checks.test("Errors: \"Ahead of the calls .. the interface says\"", () -> headings(source, document));
        Checks.test("nothing but the face can be seen", RuleTests::hidden);
        Checks.test("no words that LANGUAGE.md rules out", () -> words(source));
        Checks.test("short methods, few classes", () -> sizes(source));
        Checks.test("a chain keeps to its room", RuleTests::room);
    }

    private static void face() throws Exception {
        Class<?> face = ColdChain.class;
        Checks.isTrue("public and final", Modifier.isPublic(face.getModifiers()) && Modifier.isFinal(face.getModifiers()));
        Set<String> calls = new TreeSet<>();
        for (Method method : face.getDeclaredMethods()) {
            if (Modifier.isPublic(method.getModifiers())) {
                calls.add(method.getName() + "/" + method.getParameterCount());
                Checks.isTrue(method + " answers an int", method.getReturnType() == int.class);
                Checks.isTrue(method + " is an object's", !Modifier.isStatic(method.getModifiers()));
                for (Class<?> type : method.getParameterTypes()) {
                    Checks.isTrue(method + " takes ints", type == int.class);
                }
            }
        }
        Checks.isTrue("the calls are " + calls, String.join(" ", calls).equals(FACE));
        Checks.due("INVALID_ARGUMENT", face.getField("INVALID_ARGUMENT").getInt(null), -100001);
        Checks.due("ILLEGAL_STATE", face.getField("ILLEGAL_STATE").getInt(null), -100002);
        Checks.due("CAPACITY_EXCEEDED", face.getField("CAPACITY_EXCEEDED").getInt(null), -100003);
        Checks.due("NONE", face.getField("NONE").getInt(null), -100009);
        Checks.due("public fields", face.getFields().length, 4);
    }

    /** To the letter, in the same order, with the same names of the arguments. */
    private static void signatures(String source, String document) throws Exception {
        List<String> due = new ArrayList<>();
        boolean inside = false;
        for (String line : Files.readAllLines(Path.of(document), StandardCharsets.UTF_8)) {
            inside = line.startsWith("```java") || inside && !line.startsWith("```");
            if (inside && line.strip().startsWith("public")) {
                due.add(line.strip().replaceFirst("\\);$", ") {"));
            }
        }
        Checks.due("lines of the face", due.size(), 29);
        List<String> got = new ArrayList<>();
        for (String line : Files.readAllLines(Path.of(source), StandardCharsets.ISO_8859_1)) {
            if (line.strip().startsWith("public")) {
                got.add(line.strip());
            }
        }
        Checks.isTrue("the public lines are " + got, got.equals(due));
    }

    private static void headings(String source, String document) throws Exception {
        List<String> due = new ArrayList<>();
        Pattern said = Pattern.compile("Ahead of the calls (.*) the interface says: (---- .*)\\.");
        for (String line : Files.readAllLines(Path.of(document), StandardCharsets.UTF_8)) {
            Matcher heading = said.matcher(line);
            if (heading.matches()) {
                due.add("// " + heading.group(2));
                due.addAll(Arrays.asList(heading.group(1).replace("`", "").split(", ")));
            }
        }
        Checks.due("headings and calls", due.size(), 5 + 23);
        List<String> got = new ArrayList<>();
        for (String line : Files.readAllLines(Path.of(source), StandardCharsets.ISO_8859_1)) {
            Matcher call = Pattern.compile(" {4}public int (\\w+)\\(.*").matcher(line);
            if (line.startsWith("    // ---- ") || call.matches()) {
                got.add(call.matches() ? call.group(1) : line.strip());
            }
        }
        // What stands behind the face has a heading of its own.
        Checks.isTrue("the source has " + got, got.size() == 29 && got.subList(0, 28).equals(due));
    }

    private static void hidden() {
        Set<String> seen = new TreeSet<>();
        for (Method method : ColdChain.class.getDeclaredMethods()) {
            if (Modifier.isPublic(method.getModifiers())) {
                seen.add(method.getName());
            }
        }
        for (Method method : ColdChain.class.getDeclaredMethods()) {
            if (!Modifier.isPublic(method.getModifiers())) {
                Checks.isTrue(method + " is private", Modifier.isPrivate(method.getModifiers()));
                Checks.isTrue(method + " has a name of its own", !seen.contains(method.getName()));
            }
        }
        for (Constructor<?> made : ColdChain.class.getDeclaredConstructors()) {
            Checks.isTrue(made + " is public and bare", Modifier.isPublic(made.getModifiers()) && made.getParameterCount() == 0);
        }
        for (Class<?> inner : ColdChain.class.getDeclaredClasses()) {
            int modifiers = inner.getModifiers();
            Checks.isTrue(inner + " is static", Modifier.isStatic(modifiers) && !Modifier.isPublic(modifiers));
            checkFields(inner);
        }
        checkFields(ColdChain.class);
    }

    private static void checkFields(Class<?> owner) {
        int own = 0;
        for (Field field : owner.getDeclaredFields()) {
            int modifiers = field.getModifiers();
            if (Modifier.isStatic(modifiers)) {
                Checks.isTrue(field + " is final", Modifier.isFinal(modifiers));
            } else {
                own++;
                boolean open = owner == ColdChain.class && !Modifier.isPrivate(modifiers);
                Checks.isTrue(field + " is private", !open);
            }
        }
        Checks.isTrue(owner + " has at most 20 fields", own <= 20);
    }

    /** The source without comments and without what stands between quotes. */
    private static String bare(String source) throws Exception {
        String text = Files.readString(Path.of(source), StandardCharsets.ISO_8859_1);
        text = text.replaceAll("(?s)/\\*.*?\\*/", " ").replaceAll("//[^\n]*", " ");
        return text.replaceAll("'(\\\\.|[^'])'", "'q'");
    }

    private static void words(String source) throws Exception {
        String text = bare(source);
        String[] banned = {"throw", "throws", "try", "catch", "synchronized", "assert", "instanceof", "import", "package",
            "protected", "volatile", "transient", "native", "strictfp", "Object", "Exception", "Error", "System", "Thread",
            "Random", "equals", "hashCode", "toString", "Integer\\.valueOf", "var", "float", "double", "yield", "finally"};
        for (String word : banned) {
            Checks.isTrue("no " + word, !Pattern.compile("\\b" + word + "\\b").matcher(text).find());
        }
        for (String sign : new String[] {"->", "::", "@", "...", "\""}) {
            Checks.isTrue("no " + sign, !text.contains(sign));
        }
        Matcher library = Pattern.compile("\\b(Math|Integer|Arrays|Long|String)\\.(\\w+)").matcher(text);
        Set<String> known = new TreeSet<>(Arrays.asList("abs", "max", "min", "floorDiv", "bitCount"));
        while (library.find()) {
            Checks.isTrue(library.group() + " is in the library", known.contains(library.group(2)));
        }
    }

    private static void sizes(String source) throws Exception {
        int start = 0;
        int number = 0;
        int classes = 0;
        for (String line : bare(source).split("\n")) {
            number++;
            if (line.matches("\\s*(public |private |static |final )*class \\w+.*")) {
                classes++;
            }
            if (line.matches("\\s+[\\w\\[\\] ]+\\([^;]*\\) \\{")
                && !line.matches("\\s+(\\} else )?(if|for|while|switch|do)\\b.*")) {
                start = number;
                Checks.isTrue("at most 7 parameters: " + line, line.split(",").length <= 7);
            }
            if (line.matches(" {4}(?: {4})?\\}") && start > 0) {
                Checks.isTrue("line " + start + ": at most 60 lines", number - start <= 60);
            }
        }
        Checks.isTrue("the lines are counted", number > 100 && start > 0);
        Checks.isTrue("at most 12 classes: " + classes, classes >= 1 && classes <= 12);
    }

    /** 512 new objects would still fit into the room of one run. */
    private static void room() throws Exception {
        ColdChain chain = new ColdChain();
        long[] fresh = reached(chain);
        Checks.isTrue("objects: " + fresh[0], fresh[0] * 512 <= 600_000);
        Checks.isTrue("fields and elements: " + fresh[1], fresh[1] * 512 <= 7_300_000);
        for (int k = 0; k < 20; k++) {
            chain.addVan(0, 5);
            chain.door(0, 1);
            chain.loadPallet(0, k % 3, 0, 600, 1);
            chain.pass(9);
            Look.script(chain, "w1;c0;o0;");
            chain.longestOpen(0);
            chain.minutesLeft(0);
        }
        long[] used = reached(chain);
        Checks.due("objects after a long run", used[0], fresh[0]);
        Checks.due("fields and elements after a long run", used[1], fresh[1]);
    }

    private static long[] reached(Object root) throws Exception {
        Map<Object, Boolean> seen = new IdentityHashMap<>();
        long[] sums = new long[2];
        reach(root, seen, sums);
        return sums;
    }

    private static void reach(Object here, Map<Object, Boolean> seen, long[] sums) throws Exception {
        if (here == null || seen.put(here, true) != null) {
            return;
        }
        sums[0]++;
        if (here.getClass().isArray()) {
            sums[1] += java.lang.reflect.Array.getLength(here);
            if (here instanceof Object[]) {
                for (Object part : (Object[]) here) {
                    reach(part, seen, sums);
                }
            }
            return;
        }
        for (Field field : here.getClass().getDeclaredFields()) {
            if (!Modifier.isStatic(field.getModifiers())) {
                sums[1]++;
                field.setAccessible(true);
                if (!field.getType().isPrimitive()) {
                    reach(field.get(here), seen, sums);
                }
            }
        }
    }
}
