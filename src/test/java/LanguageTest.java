import java.io.IOException;
import java.nio.file.Files;
import java.nio.file.Path;
import java.util.regex.Matcher;
import java.util.regex.Pattern;

/** What ../shared/LANGUAGE.md leaves out and a look at the words can find. It is no proof of the other rules. */
public final class LanguageTest {
    private static final Path SOURCE = Path.of("src/main/java/LeftQuills.java");
    private static final Due DUE = new Due();

    public static void main(String[] args) throws IOException {
        String code = withoutComments(Files.readString(SOURCE));
        without(code, "\\b(throw|throws|try|catch|synchronized|assert|import|package|native|volatile|transient)\\b");
        without(code, "->|::");
        without(code, "\\b(Exception|Error|Object|Random|Thread|Scanner|Optional|Stream)\\b");
        without(code, "\\b\\w+Exact\\b");
        without(code, "\\bSystem\\.(?!arraycopy\\b)");
        without(code, "\\bMath\\.(?!(max|min|abs|floorDiv|floorMod)\\b)");
        without(code, "\\bstatic\\s*\\{");
        without(code, "\\bstatic (?!final\\b)[\\w\\[\\]]+ \\w+( =|;)");
        without(code, "\\b(double|float)\\b");
        DUE.is("public classes", count(code, "\\bpublic [\\w ]*class\\b"), 1);
        DUE.is("classes, twelve at most: more than that", Math.max(0, count(code, "\\b(class|record|enum|interface) \\w+") - 12), 0);
        methods(code);
        DUE.end();
    }

    private static String withoutComments(String code) {
        return code.replaceAll("(?s)/\\*.*?\\*/", "").replaceAll("//[^\n]*", "");
    }

    private static void without(String code, String pattern) {
        Matcher found = Pattern.compile(pattern).matcher(code);
        while (found.find()) {
            DUE.is("'" + found.group() + "' stands in the code, times", 1, 0);
        }
        DUE.is(pattern, 0, 0);
    }

    private static int count(String code, String pattern) {
        return (int) Pattern.compile(pattern).matcher(code).results().count();
    }

    /** Seven parameters and sixty lines at most. */
    private static void methods(String code) {
        Matcher head = Pattern.compile("(?m)^( +)[\\w\\[\\] ]*?\\b(\\w+)\\(([^()]*)\\) \\{$").matcher(code);
        while (head.find()) {
            String name = head.group(2);
            if (name.equals("if") || name.equals("for") || name.equals("while") || name.equals("switch")) {
                continue;
            }
            DUE.is(name + " has more than 7 parameters by", Math.max(0, head.group(3).split(",").length - 7), 0);
            int end = code.indexOf("\n" + head.group(1) + "}", head.start());
            int lines = count(code.substring(head.start(), Math.max(head.start(), end)), "\n");
            DUE.is(name + " has more than 60 lines by", Math.max(0, lines - 60), 0);
        }
    }
}
