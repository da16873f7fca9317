import java.io.IOException;
import java.nio.file.Files;
import java.nio.file.Path;
import java.util.regex.Matcher;
import java.util.regex.Pattern;

/** What of ../shared/LANGUAGE.md can be read off the source's words; the argument is the source's path. */
final class LanguageTest {
    private LanguageTest() {
    }

    static void tests(String path) throws IOException {
        String source = Files.readString(Path.of(path));
        for (int k = 0; k < source.length(); k++) {
            char c = source.charAt(k);
            if (c != '\n' && (c < 32 || c > 126)) {
                Tally.holds("a plain sign at " + k, false);
            }
        }
        String bare = source.replaceAll("(?s)/\\*.*?\\*/", " ").replaceAll("//[^\n]*", " ")
            .replaceAll("'[^\n']+'", "0").replaceAll("\"[^\"\n]*\"", "\"\"");
        none(bare, "\\b(throw|throws|try|catch|finally|synchronized|assert|volatile|transient|native|float|double|var)\\b");
        none(bare, "->|::|\\.class\\b|\\bthis\\s*\\)|\\?\\s*extends|@");
        none(bare, "\\b(equals|hashCode|toString|Exact|Object|Random|Thread|Runtime|File|Scanner|Stream)\\b");
        none(bare, "\\b(package|protected|import)\\b");
        none(bare, "System\\.(?!arraycopy\\b)|Math\\.(?!max\\b|min\\b)");
        none(bare, "\\bstatic (?!final\\b)[^(;{]*[;=]");
        none(bare, "while\\s*\\(|for\\s*\\(\\s*;|do\\s*\\{");
        none(bare, "\"\"\\s*\\+|\\+\\s*\"\"");
        Tally.holds("at most twelve classes", count(bare, "\\b(class|enum|record|interface)\\s+[A-Z]") <= 12);
        Tally.holds("no new but of the rows and the objects that a constructor makes", count(bare, "\\bnew\\b")
            == count(bare, "(?m)^        (texts|tape|now|kept|thought|branch|sheets) = new|^ {8}[a-z \\[\\]A-Z]*final [^;\n]*= new"));
        shortMethods(source);
    }

    private static int count(String text, String pattern) {
        Matcher m = Pattern.compile(pattern).matcher(text);
        int many = 0;
        while (m.find()) {
            many++;
        }
        return many;
    }

    private static void none(String text, String pattern) {
        Matcher m = Pattern.compile(pattern).matcher(text);
        boolean is = m.find();
        Tally.holds("the language has no " + pattern + (is ? ": " + m.group() : ""), !is);
    }

    /** A method begins at its indented head and ends at a brace as far in: at most sixty lines. */
    private static void shortMethods(String source) {
        String[] lines = source.split("\n");
        int began = 0;
        String head = "";
        for (int k = 0; k < lines.length; k++) {
            if (lines[k].matches(" {4}(?: {4})?[A-Za-z][^=;]*\\) \\{")) {
                began = k;
                head = lines[k];
            }
            if (!head.isEmpty() && lines[k].equals(head.replaceAll("\\S.*", "") + "}")) {
                Tally.holds("short: " + head.trim(), k - began <= 60);
                head = "";
            }
        }
    }
}
