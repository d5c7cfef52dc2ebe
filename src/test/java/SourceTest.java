import java.io.IOException;
import java.nio.charset.StandardCharsets;
import java.nio.file.Files;
import java.nio.file.Path;
import java.util.ArrayDeque;
import java.util.Deque;
import java.util.regex.Matcher;
import java.util.regex.Pattern;

/** Rules of LANGUAGE.md that can be read off the text of the program; its path is the argument. */
public final class SourceTest {
    private static final String[] BARRED = {"->", "::", "\\bfinally\\b", "\\bsynchronized\\b", "\\bassert\\b",
        "\\bpackage\\b", "\\bprotected\\b", "\\bvolatile\\b", "Exact\\b", "\\bSystem\\.(?!arraycopy\\b)",
        "\\bstatic\\s*\\{", "\\.\\.\\.", "\\bhashCode\\b", "\\bgetClass\\b", "\\bObject\\b", "\\bThread\\b",
        "\\bNaN\\b", "\"\\s*\\+", "\\+\\s*\"", "\\btry\\s*\\(", "\\bgetMessage\\b",
        "catch\\s*\\([^)]*\\b(NullPointer|ArrayIndex|ClassCast|NegativeArray|ArrayStore|Throwable|Error)"};
    private static final String IMPORTS = "java\\.util\\.(NoSuchElementException|ArrayList|List|Arrays|Iterator|\\*)";
    private static final String THROWS = " new (IllegalState|IllegalArgument|IndexOutOfBounds|Arithmetic|"
            + "UnsupportedOperation|NoSuchElement|Runtime)(Exception)?\\((\"[^\"]*\")?\\)";
    private static final Pattern METHOD = Pattern.compile(
            "(?m)^ +(?:(?:public|private|static|final) )*[\\w\\[\\]]+ \\w+\\(([^)]*)\\)[^;{]*\\{$");
    private static final int MOST_LINES = 60;
    private static final int MOST_PARAMETERS = 7;

    public static void main(String[] args) throws IOException {
        byte[] bytes = Files.readAllBytes(Path.of(args[0]));
        for (int i = 0; i < bytes.length; i++) {
            if (bytes[i] < 0 || bytes[i] < 32 && bytes[i] != '\n') {
                Bank.same("a byte of the program at " + i, bytes[i], ' ');
            }
        }
        String text = new String(bytes, StandardCharsets.US_ASCII);
        String code = withoutComments(text);
        imports(code);
        for (String barred : BARRED) {
            Matcher found = Pattern.compile(barred).matcher(code);
            Bank.holds("no " + barred, !found.find());
        }
        throwsWrittenOnes(code);
        methods(text);
        Bank.end("SourceTest");
    }

    private static String withoutComments(String text) {
        return text.replaceAll("(?s)/\\*.*?\\*/", " ").replaceAll("//[^\n]*", " ");
    }

    private static void imports(String code) {
        Matcher found = Pattern.compile("\\bimport ([^;]*);").matcher(code);
        while (found.find()) {
            Bank.holds("import " + found.group(1), found.group(1).matches(IMPORTS));
        }
    }

    private static void throwsWrittenOnes(String code) {
        Matcher found = Pattern.compile("\\bthrow\\b([^;]*);").matcher(code);
        int count = 0;
        while (found.find()) {
            count++;
            Bank.holds("throw" + found.group(1), found.group(1).matches(THROWS));
        }
        Bank.holds("throws are found", count >= 3);
    }

    private static void methods(String text) {
        Matcher found = METHOD.matcher(text);
        int count = 0;
        while (found.find()) {
            count++;
            String head = found.group().trim();
            String list = found.group(1).trim();
            int parameters = list.isEmpty() ? 0 : list.split(",").length;
            Bank.holds("parameters of " + head, parameters <= MOST_PARAMETERS);
            Bank.holds("lines of " + head, linesOf(text, found.end()) <= MOST_LINES);
        }
        Bank.holds("methods are found", count >= 29);
    }

    /** Lines of the body that opens ahead of a place. */
    private static int linesOf(String text, int from) {
        Deque<Integer> open = new ArrayDeque<>();
        open.push(from);
        int lines = 0;
        for (int i = from; i < text.length() && !open.isEmpty(); i++) {
            char one = text.charAt(i);
            lines += one == '\n' ? 1 : 0;
            if (one == '{') {
                open.push(i);
            } else if (one == '}') {
                open.pop();
            }
        }
        return lines;
    }
}
