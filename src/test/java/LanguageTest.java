import java.io.IOException;
import java.nio.file.Files;
import java.nio.file.Path;
import java.util.List;
import java.util.regex.Matcher;
import java.util.regex.Pattern;

/** What of LANGUAGE.md can be seen in the program's text. Run from the project's own directory. */
public final class LanguageTest {
    private static final Path SOURCE = Path.of("src/main/java/SeatRacing.java");
    private static final int LONGEST_METHOD = 60;
    private static final List<String> FORBIDDEN = List.of(
        "->", "::", "\\w+Exact\\b", "\\btry\\b", "\\bcatch\\b", "\\bfinally\\b", "\\bsynchronized\\b",
        "\\bassert\\b", "\\bpackage\\b", "\\bnative\\b", "\\bvolatile\\b", "\\bstatic\\s*\\{", "\\bdouble\\b",
        "\\bfloat\\b", "\\bSystem\\.(?!arraycopy)", "\\bThread\\b", "\\bRandom\\b", "\\bObject\\b",
        "\\bequals\\b", "\\bhashCode\\b", "\\btoString\\b", "\\bvar\\b", "while \\(true\\)", "for \\(;");

    private LanguageTest() {
    }

    public static void main(String[] args) throws IOException {
        String text = Files.readString(SOURCE);
        String code = withoutComments(text);
        for (String wrong : FORBIDDEN) {
            Check.due("forbidden: " + wrong, Pattern.compile(wrong).matcher(code).find(), false);
        }
        Matcher imports = Pattern.compile("import ([^;]+);").matcher(code);
        while (imports.find()) {
            Check.due("import " + imports.group(1), imports.group(1).equals("java.util.NoSuchElementException"), true);
        }
        Matcher thrown = Pattern.compile("throw new (\\w+)").matcher(code);
        while (thrown.find()) {
            Check.due("throw of " + thrown.group(1), thrown.group(1).equals("NoSuchElementException"), true);
        }
        for (int i = 0; i < text.length(); i++) {
            char sign = text.charAt(i);
            if (sign != '\n' && (sign < 32 || sign > 126)) {
                Check.fail("a strange sign at " + i);
            }
        }
        methodLengths(code);
        Check.done("LanguageTest");
    }

    private static String withoutComments(String text) {
        String blocks = Pattern.compile("/\\*.*?\\*/", Pattern.DOTALL).matcher(text)
            .replaceAll(m -> "\n".repeat((int) m.group().chars().filter(c -> c == '\n').count()));
        return blocks.replaceAll("//[^\n]*", "");
    }

    /** A method starts at a line that ends with ") {" or throws, and ends at a brace of its own depth. */
    private static void methodLengths(String code) {
        String[] lines = code.split("\n");
        for (int i = 0; i < lines.length; i++) {
            Matcher start = Pattern.compile("^( {4}| {8})[a-zA-Z][\\w\\[\\] ]*\\w+\\([^;]*\\{$").matcher(lines[i]);
            if (!start.find() || lines[i].matches(" *(if|for|while|switch|else|return).*")) {
                continue;
            }
            int end = i;
            while (end < lines.length && !lines[end].equals(start.group(1) + "}")) {
                end++;
            }
            Check.due("longest method, at line " + (i + 1), end - i + 1 <= LONGEST_METHOD, true);
        }
    }
}
