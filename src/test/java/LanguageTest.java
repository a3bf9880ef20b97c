import java.io.IOException;
import java.nio.file.Files;
import java.nio.file.Path;
import java.util.List;
import java.util.regex.Matcher;
import java.util.regex.Pattern;

/** What can be seen of LANGUAGE.md's rules in the lines of the class; run from the project's root. */
public final class LanguageTest {
    private static final String[] FORBIDDEN = {
        "->", "::", "\\bcatch\\b", "\\btry\\b", "\\bfinally\\b", "\\bsynchronized\\b", "\\bassert\\b", "\\bvar\\b",
        "\\bpackage\\b", "\\bstatic \\{", "Exact\\(", "\\bSystem\\.", "\\bObject\\b", "\\bfloorMod\\b",
        "\\bprotected\\b", "\"", "\\bextends\\b", "\\bnull\\b",
    };

    private LanguageTest() {
    }

    public static void main(String[] args) throws IOException {
        List<String> lines = Files.readAllLines(Path.of("src/main/java/Jamhouse.java"));
        boolean isComment = false;
        int start = 0;
        for (int i = 0; i < lines.size(); i++) {
            String line = lines.get(i);
            isComment |= line.trim().startsWith("/*");
            if (!isComment && !line.trim().startsWith("//")) {
                checkLine(line, i + 1);
            }
            isComment &= !line.trim().endsWith("*/");
            start = line.matches(" {4}( {4})?[\\w@].*\\(.*") && !line.matches(" {8}.*;") ? i : start;
            if (line.matches(" {4}( {4})?\\}")) {
                Check.isTrue("lines " + (start + 1) + " to " + (i + 1) + " are short", i - start < 60);
            }
        }
        Check.close("LanguageTest");
    }

    private static void checkLine(String line, int number) {
        for (String token : FORBIDDEN) {
            Check.isFalse("line " + number + " has " + token, Pattern.compile(token).matcher(line).find());
        }
        if (line.startsWith("import")) {
            Check.due("line " + number, line, "import java.util.NoSuchElementException;");
        }
        Matcher library = Pattern.compile("\\b(Math|Integer|Long|Arrays|String|List)\\.(\\w+)").matcher(line);
        while (library.find()) {
            Check.isTrue("line " + number + " calls " + library.group(),
                    library.group().matches("Math\\.(min|max|abs|floorDiv)"));
        }
        Matcher thrown = Pattern.compile("throw (.*)").matcher(line);
        while (thrown.find()) {
            Check.isTrue("line " + number + ": " + thrown.group(), thrown.group(1).matches(
                    "new (IllegalState|IllegalArgument|IndexOutOfBounds|UnsupportedOperation|NoSuchElement)"
                            + "Exception\\(\\);"));
        }
        Check.isTrue("the signs of line " + number, line.chars().allMatch(sign -> sign < 128));
        Check.isFalse("line " + number + " has a static that is not final",
                line.matches(".*\\bstatic (?!final|class)[\\w\\[\\]]+ \\w+( =.*)?;"));
    }
}
