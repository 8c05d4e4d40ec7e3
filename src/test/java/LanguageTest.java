import java.io.IOException;
import java.lang.reflect.Constructor;
import java.lang.reflect.Field;
import java.lang.reflect.Method;
import java.lang.reflect.Modifier;
import java.nio.file.Files;
import java.nio.file.Path;
import java.util.ArrayList;
import java.util.Arrays;
import java.util.List;
import java.util.Set;
import java.util.TreeSet;
import java.util.regex.Matcher;
import java.util.regex.Pattern;

/** The document's face, and those rules of LANGUAGE.md that can be told from the class and from its text. */
public final class LanguageTest {
    private static final Path SOURCE = Path.of("src/main/java/LoomCards.java");
    private static final String[] FACE = {
        "type(int)", "clear()", "tells()", "punches(int, int)", "ties(int, int)", "adds(int)", "drops(int)",
        "changes(int, int)", "limits(int)", "undo()", "card(int, int)", "end(int, int)", "cloth(int, int)",
        "told(int)", "mends(int)", "sees(int, int, int)", "forget()", "suspects(int)", "look()", "keep(int)",
        "back(int)", "count(int)",
    };
    private static final String[] CONSTANTS = {"BAD", "STATE", "FULL", "NONE", "NO"};
    private static final String[] RULED_OUT = {
        "\\b(throw|throws|try|catch|synchronized|assert|native|volatile|transient)\\b", "\\b(import|package)\\b",
        "->", "::", "\\bstatic\\s*\\{", "\\b(System\\.(?!arraycopy\\b)|Thread|Runtime|Random)", "Exact\\(",
    };
    /** Of what LANGUAGE.md allows, that which the class needs: another one is looked up there, then put here. */
    private static final Set<String> LIBRARY = Set.of("Integer.bitCount", "Long.bitCount", "Math.max", "Math.min",
        "System.arraycopy");
    private static final Pattern LIBRARY_CALL = Pattern.compile("\\b([A-Z]\\w*\\.[a-z]\\w*)\\s*\\(");
    /** What is made stands in a field's own line, or goes into an array of looms (by a constructor: that is not seen here). */
    private static final Pattern MADE = Pattern.compile(
        " +(private )?final [\\w\\[\\]]+ \\w+ = new \\w+[(\\[]\\w*[)\\]];|            (    )?\\w+\\[\\w+\\] = new Loom\\(\\);");
    private static final int MOST_LINES_OF_A_METHOD = 60;

    private static int wrong = 0;

    private static void due(String what, boolean isSo) {
        if (!isSo) {
            wrong++;
            System.out.println("not as due: " + what);
        }
    }

    private static String signature(Method method) {
        List<String> types = new ArrayList<>();
        for (Class<?> type : method.getParameterTypes()) {
            types.add(type.getSimpleName());
        }
        return method.getName() + "(" + String.join(", ", types) + ")";
    }

    private static void theFace() {
        Set<String> methods = new TreeSet<>();
        for (Method method : LoomCards.class.getDeclaredMethods()) {
            if (!Modifier.isPrivate(method.getModifiers())) {
                due(method + " is public, not static, and answers an int", method.getReturnType() == int.class
                    && Modifier.isPublic(method.getModifiers()) && !Modifier.isStatic(method.getModifiers()));
                methods.add(signature(method));
            }
        }
        due("the methods are the document's: " + methods, methods.equals(new TreeSet<>(Arrays.asList(FACE))));
        Set<String> constants = new TreeSet<>();
        for (Field field : LoomCards.class.getDeclaredFields()) {
            if (!Modifier.isPrivate(field.getModifiers())) {
                due(field + " is a constant", field.getType() == int.class
                    && field.getModifiers() == (Modifier.PUBLIC | Modifier.STATIC | Modifier.FINAL));
                constants.add(field.getName());
            }
        }
        due("the constants are the document's", constants.equals(new TreeSet<>(Arrays.asList(CONSTANTS))));
        Constructor<?>[] constructors = LoomCards.class.getDeclaredConstructors();
        due("one public constructor without arguments", constructors.length == 1
            && constructors[0].getParameterCount() == 0 && Modifier.isPublic(constructors[0].getModifiers()));
        due("public final class", LoomCards.class.getModifiers() == (Modifier.PUBLIC | Modifier.FINAL));
        due("values", LoomCards.BAD == -1 && LoomCards.STATE == -2 && LoomCards.FULL == -3 && LoomCards.NONE == -9
            && LoomCards.NO == -1000000);
    }

    private static void theClassesInside() {
        Class<?>[] inside = LoomCards.class.getDeclaredClasses();
        due("twelve classes at most", inside.length < 12);
        for (Class<?> one : inside) {
            due(one + " is static, and not public", Modifier.isStatic(one.getModifiers())
                && !Modifier.isPublic(one.getModifiers()) && !Modifier.isProtected(one.getModifiers()));
            members(one);
        }
        members(LoomCards.class);
    }

    private static void members(Class<?> one) {
        Set<String> face = new TreeSet<>();
        for (String method : FACE) {
            face.add(method.substring(0, method.indexOf('(')));
        }
        for (Method method : one.getDeclaredMethods()) {
            due(method + " has seven parameters at most", method.getParameterCount() <= 7);
            due(method + " bears no name of a public one",
                !Modifier.isPrivate(method.getModifiers()) || !face.contains(method.getName()));
        }
        int fields = 0;
        for (Field field : one.getDeclaredFields()) {
            boolean isStatic = Modifier.isStatic(field.getModifiers());
            due(field + " is final, if static", !isStatic || Modifier.isFinal(field.getModifiers()));
            fields += isStatic ? 0 : 1;
        }
        due(one + " has twenty fields at most", fields <= 20);
    }

    private static void theText() throws IOException {
        String source = Files.readString(SOURCE);
        due("signs 10, 32 to 126 alone", source.chars().allMatch(sign -> sign == 10 || sign >= 32 && sign < 127));
        String code = source.replaceAll("(?s)/\\*.*?\\*/", "").replaceAll("//[^\n]*", "");
        for (String words : RULED_OUT) {
            due("without " + words, !Pattern.compile(words).matcher(code).find());
        }
        theLibrary(code);
        methodsAreShort(source.split("\n"));
    }

    private static void theLibrary(String code) {
        for (Matcher call = LIBRARY_CALL.matcher(code); call.find();) {
            due(call.group(1) + " is of the library that is allowed", LIBRARY.contains(call.group(1)));
        }
        for (String line : code.split("\n")) {
            due("made once, not by a call: " + line, !line.matches(".*\\bnew\\b.*") || MADE.matcher(line).matches());
        }
    }

    private static void methodsAreShort(String[] lines) {
        int head = -1;
        String end = "";
        for (int i = 0; i < lines.length; i++) {
            if (lines[i].matches("( {4}| {8})\\w[^=]*\\) \\{")) {
                head = i;
                end = lines[i].replaceAll("\\w.*", "}");
            } else if (head >= 0 && lines[i].equals(end)) {
                due("line " + (head + 1) + " begins a short method", i - head < MOST_LINES_OF_A_METHOD);
                head = -1;
            }
        }
        due("each method has an end", head == -1);
    }

    public static void main(String[] args) throws IOException {
        theFace();
        theClassesInside();
        theText();
        System.out.println(wrong == 0 ? "all is as due" : wrong + " are not as due");
        if (wrong != 0) {
            System.exit(1);
        }
    }
}
