import java.nio.file.Files;
import java.nio.file.Path;
import java.util.regex.Matcher;
import java.util.regex.Pattern;

/** Those rules of LANGUAGE.md that can be seen in the words of the file. */
public final class RulesTest {
    private static final String[] RULED_OUT = {
        "\\b(throw|throws|try|catch|synchronized|assert|import|package|protected|volatile|native|lambda)\\b",
        "->", "::", "\\bException\\b", "\\w+Exact\\b", "@\\w+",
        "\\b(System\\.(?!arraycopy)|Thread|Random|Runtime|Object|Class)\\b",
        "\\b(hashCode|toString|getClass)\\b",
        "\\bstatic\\s*\\{",
        "\\bstatic\\s+(?!final)(int|long|boolean|char|String)\\s+\\w+\\s*[=;,]",
        "\\bMath\\.(?!max|min|abs|floorMod|floorDiv)", "\\bLong\\.(?!bitCount)", "\\bInteger\\.",
        "[^\\x00-\\x7f]",
    };

    public static void main(String[] args) throws Exception {
        String all = Files.readString(Path.of("src/main/java/ClockTeeth.java"));
        String bare = all.replaceAll("(?s)/\\*.*?\\*/", "").replaceAll("//[^\n]*", "").replaceAll("\"[^\"\n]*\"", "\"\"");
        Due d = new Due();
        for (String pattern : RULED_OUT) {
            Matcher m = Pattern.compile(pattern).matcher(bare);
            boolean found = m.find();
            d.due("ruled out: " + pattern + (found ? " (" + m.group() + ")" : ""), found ? 1 : 0, 0);
        }
        d.due("top classes", many("(?m)^public final class ClockTeeth \\{", bare), 1);
        d.due("classes inside are static", many("\\bclass \\w+", bare), many("\\bstatic final class \\w+", bare) + 1);
        d.due("twelve classes at most", Math.max(12, many("\\bclass \\w+", bare)), 12);
        methods(d, bare);
        d.finish("RulesTest");
    }

    private static int many(String pattern, String text) {
        Matcher m = Pattern.compile(pattern).matcher(text);
        int n = 0;
        while (m.find()) {
            n++;
        }
        return n;
    }

    private static void methods(Due d, String bare) {
        Matcher m = Pattern.compile("(?m)^( +)(?:\\w+(?:\\[\\])? )*(\\w+)\\(([^()]*)\\) \\{$").matcher(bare);
        int seen = 0;
        while (m.find()) {
            if (m.group(2).matches("if|for|while|switch")) {
                continue;
            }
            seen++;
            int from = m.end();
            int to = bare.indexOf("\n" + m.group(1) + "}", from);
            int lines = bare.substring(from, to).split("\n", -1).length;
            d.due("lines of " + m.group(2) + ", 60 at most", Math.max(lines, 60), 60);
            int parameters = m.group(3).isEmpty() ? 0 : m.group(3).split(",").length;
            d.due("parameters of " + m.group(2) + ", 7 at most", Math.max(parameters, 7), 7);
        }
        d.due("methods seen", seen > 100 ? 1 : 0, 1);
    }
}
