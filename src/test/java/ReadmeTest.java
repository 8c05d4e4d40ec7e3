import java.io.IOException;
import java.lang.reflect.Method;
import java.lang.reflect.Modifier;
import java.nio.file.Files;
import java.nio.file.Path;
import java.util.ArrayList;
import java.util.Arrays;
import java.util.List;
import java.util.Set;
import java.util.TreeSet;
import java.util.regex.Matcher;
import java.util.regex.Pattern;
import java.util.stream.Stream;

/** README.md beside the class: its example is run, and what it names is what there is. */
public final class ReadmeTest {
    private static final Path README = Path.of("README.md");
    private static final Path TESTS = Path.of("src/test/java");
    private static final Pattern EXAMPLE = Pattern.compile("(?s)```java\n(.*?)```");
    private static final Pattern TEXT = Pattern.compile("\"([^\"]*)\"\\.toCharArray\\(\\)");
    private static final Pattern CALL = Pattern.compile(
        "loom\\.(\\w+)\\(([-0-9, ]*)\\);\\s*// (-?\\d+)(: (BAD|STATE|FULL|NONE|NO)\\b)?.*");
    private static final Pattern NAMED_CALL = Pattern.compile("(?m)^\\| `(\\w+)\\(([\\w, ]*)\\)` \\|");
    private static final Pattern NAMED_ITEM = Pattern.compile("(?m)^\\| `(\\w+) [NF];` \\|");
    private static final Pattern NAMED_TEST = Pattern.compile("`(\\w+Test)`");

    private static int wrong = 0;

    private static void due(String what, Object got, Object want) {
        if (!got.equals(want)) {
            wrong++;
            System.out.println(what + " is " + got + ", due is " + want);
        }
    }

    private static int call(LoomCards loom, String name, String numbers) throws ReflectiveOperationException {
        List<Object> arguments = new ArrayList<>();
        for (String number : numbers.isBlank() ? new String[0] : numbers.split(", ")) {
            arguments.add(Integer.valueOf(number));
        }
        Class<?>[] types = new Class<?>[arguments.size()];
        Arrays.fill(types, int.class);
        return (Integer) LoomCards.class.getMethod(name, types).invoke(loom, arguments.toArray());
    }

    private static void theExample(String readme) throws ReflectiveOperationException {
        Matcher example = EXAMPLE.matcher(readme);
        due("there is an example", example.find(), true);
        Matcher text = TEXT.matcher(example.group(1));
        due("the example has a text", text.find(), true);
        LoomCards loom = new LoomCards();
        for (char letter : text.group(1).toCharArray()) {
            loom.type(letter);
        }
        int calls = 0;
        for (String line : example.group(1).split("\n")) {
            Matcher call = CALL.matcher(line);
            due("a line with a remark that is no call: " + line, line.contains("//") && !call.matches(), false);
            if (call.matches()) {
                calls++;
                due(line, call(loom, call.group(1), call.group(2)), Integer.valueOf(call.group(3)));
                if (call.group(5) != null) {
                    due(line, LoomCards.class.getField(call.group(5)).getInt(null), Integer.valueOf(call.group(3)));
                }
            }
        }
        due("the example has calls", calls > 0, true);
    }

    private static void theCalls(String readme) {
        Set<String> named = new TreeSet<>();
        for (Matcher call = NAMED_CALL.matcher(readme); call.find();) {
            int arguments = call.group(2).isEmpty() ? 0 : call.group(2).split(", ").length;
            named.add(call.group(1) + " of " + arguments);
        }
        Set<String> there = new TreeSet<>();
        for (Method method : LoomCards.class.getDeclaredMethods()) {
            if (Modifier.isPublic(method.getModifiers())) {
                there.add(method.getName() + " of " + method.getParameterCount());
            }
        }
        due("the calls that are named", named, there);
    }

    /** An item is there, if its word can stand first: the text then ends too early, behind the word. */
    private static void theItems(String readme) {
        int items = 0;
        for (Matcher item = NAMED_ITEM.matcher(readme); item.find(); items++) {
            LoomCards loom = new LoomCards();
            for (char letter : item.group(1).toCharArray()) {
                loom.type(letter);
            }
            due("tells() of " + item.group(1), loom.tells(), -10 - item.group(1).length());
        }
        due("the items that are named", items, 5);
    }

    private static void theTests(String readme) throws IOException {
        Set<String> named = new TreeSet<>();
        for (Matcher test = NAMED_TEST.matcher(readme); test.find();) {
            named.add(test.group(1));
        }
        Set<String> there = new TreeSet<>();
        try (Stream<Path> files = Files.list(TESTS)) {
            files.forEach(file -> there.add(file.getFileName().toString().replace(".java", "")));
        }
        due("the tests that are named", named, there);
    }

    public static void main(String[] args) throws IOException, ReflectiveOperationException {
        String readme = Files.readString(README);
        theExample(readme);
        theCalls(readme);
        theItems(readme);
        theTests(readme);
        System.out.println(wrong == 0 ? "all is as due" : wrong + " are not as due");
        if (wrong != 0) {
            System.exit(1);
        }
    }
}
