import java.nio.charset.StandardCharsets;
import java.nio.file.Files;
import java.nio.file.Path;
import java.util.regex.Matcher;
import java.util.regex.Pattern;

/** Those rules of LANGUAGE.md that can be read off the program's source; .ci/run starts it in the project's folder. */
public final class LanguageTest {
    private static final Due D = new Due("LanguageTest");
    private static final int MOST_LINES = 60;
    private static final int MOST_PARAMETERS = 7;

    public static void main(String[] args) throws Exception {
        String source = Files.readString(Path.of("src/main/java/ChildCourt.java"), StandardCharsets.ISO_8859_1);
        absent(source, "[^\n -~]");
        String code = source.replaceAll("(?s)/\\*.*?\\*/", " ").replaceAll("//[^\n]*", "");
        absent(code, "\\b(throw|throws|try|catch|finally|synchronized|assert|package|goto|native|volatile|transient)\\b");
        absent(code, "->|::");
        absent(code, "\\b(Object|Exception|Error|Throwable|Random|Thread|Runtime|Map|Set|Optional|Stream|var)\\b");
        absent(code, "\\b(equals|hashCode|toString|getClass)\\s*\\(");
        absent(code, "\\w+Exact\\b");
        absent(code, "\\bSystem\\.(?!arraycopy\\b)");
        absent(code, "\\bArrays\\.(?!(fill|copyOf|copyOfRange)\\b)");
        absent(code, "\\b(double|float)\\b");
        absent(code, "while\\s*\\(\\s*true|for\\s*\\(\\s*;\\s*;");
        absent(code, "(?m)^import (?!java\\.util\\.(Arrays|ArrayList|List|Iterator);)");
        // State that is static is final.
        absent(code, "\\bstatic\\s+(?!final\\b)[\\w\\[\\]]+\\s+\\w+\\s*(=|;)");
        // All rows are made with the object, so that no run of calls fills the room.
        absent(code.replace("sheets[k] = new Sheet();", ""), "(?m)^(?! *private final ).*\\bnew\\b");
        methodsAreShort(code);
        D.end();
    }

    private static void absent(String code, String pattern) {
        Matcher m = Pattern.compile(pattern).matcher(code);
        D.due("/" + pattern + "/", m.find() ? 1 : 0, 0);
    }

    private static void methodsAreShort(String code) {
        Matcher head = Pattern.compile("(?m)^( +)[\\w\\[\\] ]*\\w+\\(([^()]*)\\) \\{$").matcher(code);
        int heads = 0;
        while (head.find()) {
            if (head.group().trim().matches("(if|for|while|switch|\\}).*")) {
                continue;
            }
            heads++;
            int end = code.indexOf("\n" + head.group(1) + "}", head.end());
            long lines = code.substring(head.start(), end).lines().count();
            D.due(head.group().trim() + " is short", lines <= MOST_LINES ? 1 : 0, 1);
            D.due(head.group().trim() + " takes few", head.group(2).split(",").length <= MOST_PARAMETERS ? 1 : 0, 1);
        }
        D.due("methods were found", heads > 31 ? 1 : 0, 1);
    }
}
