import java.io.IOException;
import java.nio.file.Files;
import java.nio.file.Path;
import java.util.HashSet;
import java.util.Set;
import java.util.regex.Matcher;
import java.util.regex.Pattern;

/** What of ../shared/LANGUAGE.md can be told from the source's words. */
public final class LanguageTest {
    private static final Path SOURCE = Path.of("src/main/java/HandLock.java");
    private static final String[] NEVER = {"\\b(throw|throws|try|catch|finally|synchronized|assert|native|volatile|transient|var)\\b",
        "->", "::", "Exact\\b", "\\b(hashCode|toString|equals|getClass|Object|Thread|Random|nanoTime|currentTimeMillis)\\b",
        "\\bSystem\\b(?!\\.arraycopy)", "\\bpackage\\b", "\\bstatic\\s*\\{", "\\bprotected\\b", "@", "\\[\\]\\s*\\[\\]\\s*\\["};
    private static final Pattern METHOD = Pattern.compile(
        "^ +(?:(?:public|private|static|final) )*(?:int|long|boolean|void|String|[A-Z]\\w*)(?:\\[\\])? (\\w+)\\(([^)]*)\\) \\{$");

    private LanguageTest() {
    }

    public static void main(String[] args) throws IOException {
        String all = Files.readString(SOURCE);
        for (int i = 0; i < all.length(); i++) {
            char c = all.charAt(i);
            if (c != '\n' && (c < 32 || c > 126)) {
                Due.isTrue("sign " + (int) c + " in the source", false);
            }
        }
        String bare = all.replaceAll("(?s)/\\*.*?\\*/", "").replaceAll("//[^\n]*", "")
            .replaceAll("\"[^\"\n]*\"", "\"\"").replaceAll("'.'", "' '");
        for (String never : NEVER) {
            Matcher m = Pattern.compile(never).matcher(bare);
            Due.isTrue("the source has " + never, !m.find());
        }
        imports(bare);
        staticFields(bare);
        methods(bare);
        Matcher classes = Pattern.compile("\\b(class|enum|interface|record) [A-Z]").matcher(bare);
        Due.isTrue("twelve classes at most", classes.results().count() <= 12);
        Due.finish();
    }

    private static void imports(String bare) {
        Matcher m = Pattern.compile("import ([^;]*);").matcher(bare);
        while (m.find()) {
            Due.isTrue("import " + m.group(1), Set.of("java.util.Arrays", "java.util.ArrayList", "java.util.List", "java.util.Iterator").contains(m.group(1)));
        }
    }

    private static void staticFields(String bare) {
        for (String line : bare.split("\n")) {
            if (line.contains(" static ") && line.trim().endsWith(";")) {
                Due.isTrue("a static field is final: " + line.trim(), line.contains(" static final "));
            }
        }
    }

    private static void methods(String bare) {
        Set<String> open = new HashSet<>();
        Set<String> hidden = new HashSet<>();
        String[] lines = bare.split("\n");
        int found = 0;
        for (int i = 0; i < lines.length; i++) {
            Matcher m = METHOD.matcher(lines[i]);
            if (m.find()) {
                found++;
                (lines[i].contains("public ") ? open : hidden).add(m.group(1));
                Due.isTrue(m.group(1) + " takes seven at most", m.group(2).split(",").length <= 7);
                String close = lines[i].replaceAll("\\S.*", "") + "}";
                int end = i;
                while (end < lines.length && !lines[end].equals(close)) {
                    end++;
                }
                Due.isTrue(m.group(1) + " is short", end - i <= 60);
            }
        }
        Due.isTrue("methods are found", found > 60 && open.size() == 37);
        hidden.retainAll(open);
        Due.row("no hidden method bears a public one's name", hidden.toString(), "[]");
    }
}
