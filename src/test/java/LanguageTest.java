import java.io.IOException;
import java.lang.reflect.Field;
import java.lang.reflect.Method;
import java.lang.reflect.Modifier;
import java.nio.file.Files;
import java.nio.file.Path;
import java.util.HashMap;
import java.util.HashSet;
import java.util.List;
import java.util.Map;
import java.util.Set;
import java.util.regex.Matcher;
import java.util.regex.Pattern;

/** What can be seen of LANGUAGE.md's rules in the lines of the class; run from the project's root. */
public final class LanguageTest {
    private static final String[] FORBIDDEN = {
        "->", "::", "\\bcatch\\b", "\\btry\\b", "\\bfinally\\b", "\\bsynchronized\\b", "\\bassert\\b", "\\bvar\\b",
        "\\bpackage\\b", "\\bstatic \\{", "Exact\\(", "\\bSystem\\.", "\\bObject\\b", "\\bfloorMod\\b",
        "\\bprotected\\b", "\"", "\\bextends\\b", "\\bnull\\b",
        "\\w \\|= .*[!=<>]=", "\\w &= .*[!=<>]=", "\\w [&|] [!a-z]",
    };

    private LanguageTest() {
    }

    public static void main(String[] args) throws IOException {
        List<String> lines = Files.readAllLines(Path.of("src/main/java/Jamhouse.java"));
        boolean isComment = false;
        int start = 0;
        for (int i = 0; i < lines.size(); i++) {
            String line = lines.get(i);
            isComment |= line.trim().startsWith("/*");
            if (!isComment && !line.trim().startsWith("//")) {
                checkLine(line, i + 1);
            }
            isComment &= !line.trim().endsWith("*/");
            start = line.matches(" {4}( {4})?[\\w@].*\\(.*") && !line.matches(" {8}.*;") ? i : start;
            if (line.matches(" {4}( {4})?\\}")) {
                Check.isTrue("lines " + (start + 1) + " to " + (i + 1) + " are short", i - start < 60);
            }
        }
        checkSizes();
        checkDepth(String.join("\n", lines));
        Check.close("LanguageTest");
    }

    /** At most twelve classes, some twenty fields beside constants in each, and seven parameters in a method. */
    private static void checkSizes() {
        Set<Class<?>> classes = new HashSet<>(List.of(Jamhouse.class.getDeclaredClasses()));
        classes.add(Jamhouse.class);
        Check.isTrue("at most twelve classes", classes.size() <= 12);
        for (Class<?> type : classes) {
            int fields = 0;
            for (Field field : type.getDeclaredFields()) {
                fields += Modifier.isStatic(field.getModifiers()) ? 0 : 1;
            }
            Check.isTrue(fields + " fields of " + type, fields <= 20);
            for (Method method : type.getDeclaredMethods()) {
                Check.isTrue("the parameters of " + method, method.getParameterCount() <= 7);
            }
        }
    }

    /** Calls go at most eight deep, and none goes round: methods of one name are taken for one. */
    private static void checkDepth(String text) {
        Map<String, Set<String>> calls = new HashMap<>();
        Matcher method = Pattern.compile("\n( {4}| {8})(?! )[\\w\\[\\] ]*\\b(\\w+)\\([^()]*\\)[^;{}()]*\\{\n(.*?)\n\\1\\}",
                Pattern.DOTALL).matcher(text.replaceAll("(?s)/\\*.*?\\*/|//[^\n]*", ""));
        int at = 0;
        while (method.find(at)) {
            Set<String> called = calls.computeIfAbsent(method.group(2), name -> new HashSet<>());
            Matcher call = Pattern.compile("(\\w+)\\(").matcher(method.group(3));
            while (call.find()) {
                called.add(call.group(1));
            }
            at = method.end() - 1;
        }
        Check.isTrue("all methods are seen", calls.size() > 100);
        for (String name : calls.keySet()) {
            Check.isTrue("the calls of " + name + " go at most eight deep", depth(name, calls, 9) <= 8);
        }
    }

    private static int depth(String name, Map<String, Set<String>> calls, int most) {
        int deepest = 0;
        for (String called : calls.get(name)) {
            if (most > 0 && calls.containsKey(called)) {
                deepest = Math.max(deepest, depth(called, calls, most - 1));
            }
        }
        return deepest + 1;
    }

    private static void checkLine(String line, int number) {
        for (String token : FORBIDDEN) {
            Check.isFalse("line " + number + " has " + token, Pattern.compile(token).matcher(line).find());
        }
        if (line.startsWith("import")) {
            Check.due("line " + number, line, "import java.util.NoSuchElementException;");
        }
        Matcher library = Pattern.compile("\\b(Math|Integer|Long|Arrays|String|List)\\.(\\w+)").matcher(line);
        while (library.find()) {
            Check.isTrue("line " + number + " calls " + library.group(),
                    library.group().matches("Math\\.(min|max|abs|floorDiv)"));
        }
        Matcher thrown = Pattern.compile("throw (.*)").matcher(line);
        while (thrown.find()) {
            Check.isTrue("line " + number + ": " + thrown.group(), thrown.group(1).matches(
                    "new (IllegalState|IllegalArgument|IndexOutOfBounds|UnsupportedOperation|NoSuchElement)"
                            + "Exception\\(\\);"));
        }
        Check.isTrue("the signs of line " + number, line.chars().allMatch(sign -> sign < 128));
        Check.isFalse("line " + number + " has a static that is not final",
                line.matches(".*\\bstatic (?!final|class)[\\w\\[\\]]+ \\w+( =.*)?;"));
    }
}
