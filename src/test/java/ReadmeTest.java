import java.io.IOException;
import java.lang.reflect.Method;
import java.lang.reflect.Modifier;
import java.nio.file.Files;
import java.nio.file.Path;
import java.util.Set;
import java.util.TreeSet;
import java.util.regex.Matcher;
import java.util.regex.Pattern;

/** What README.md tells holds: its calls answer what stands behind them, each call of the face is shown, the command is there. */
public final class ReadmeTest {
    private static final Pattern BLOCK = Pattern.compile("(?ms)^```java\\n(.*?)^```$");
    private static final Pattern MADE = Pattern.compile("HandLock lock = new HandLock\\(\\);");
    private static final Pattern FED = Pattern.compile("for \\(char c : \"([^\"\\\\]*)\"\\.toCharArray\\(\\)\\) lock\\.feed\\(c\\);");
    private static final Pattern ASKED = Pattern.compile("lock\\.(\\w+)\\(([^)]*)\\); +// (-?\\d+|BAD|STATE|FULL|NONE)\\b.*");
    private static final int MOST_CALLS = 512;

    private final Set<String> shown = new TreeSet<>();
    private HandLock lock;
    private int calls;

    private ReadmeTest() {
    }

    public static void main(String[] args) throws IOException {
        String readme = Files.readString(Path.of("README.md"));
        new ReadmeTest().runBlocks(readme);
        answersBelowZero(readme);
        Due.isTrue("the command that runs all tests is told", readme.contains("\n    .ci/run\n"));
        Due.isTrue("the command can be run", Files.isExecutable(Path.of(".ci/run")));
        Due.finish();
    }

    private void runBlocks(String readme) {
        Matcher block = BLOCK.matcher(readme);
        while (block.find()) {
            for (String line : block.group(1).split("\n")) {
                runLine(line);
            }
        }
        Due.row("calls that are shown", shown.toString(), face().toString());
        Due.isTrue("the object of README.md has " + calls + " calls", calls <= MOST_CALLS);
    }

    private void runLine(String line) {
        Matcher fed = FED.matcher(line);
        Matcher asked = ASKED.matcher(line);
        if (MADE.matcher(line).matches()) {
            lock = new HandLock();
            calls = 0;
        } else if (lock != null && fed.matches()) {
            Due.tape(lock, fed.group(1));
            calls += fed.group(1).length();
            shown.add("feed");
        } else if (lock != null && asked.matches()) {
            Due.due(line, Ask.ask(lock, asked.group(1), numbers(asked.group(2))), number(asked.group(3)));
            calls++;
            shown.add(asked.group(1));
        } else {
            Due.isTrue("a line of README.md that can be run: " + line, false);
        }
    }

    private static int[] numbers(String arguments) {
        if (arguments.isEmpty()) {
            return new int[0];
        }
        String[] parts = arguments.split(", ");
        int[] numbers = new int[parts.length];
        for (int i = 0; i < parts.length; i++) {
            numbers[i] = number(parts[i].replace("HandLock.", ""));
        }
        return numbers;
    }

    private static int number(String told) {
        switch (told) {
            case "BAD": return HandLock.BAD;
            case "STATE": return HandLock.STATE;
            case "FULL": return HandLock.FULL;
            case "NONE": return HandLock.NONE;
            default: return Integer.parseInt(told);
        }
    }

    private static Set<String> face() {
        Set<String> names = new TreeSet<>();
        for (Method m : HandLock.class.getDeclaredMethods()) {
            if (Modifier.isPublic(m.getModifiers())) {
                names.add(m.getName());
            }
        }
        return names;
    }

    private static void answersBelowZero(String readme) {
        for (String name : new String[] {"BAD", "STATE", "FULL", "NONE"}) {
            Due.isTrue(name + " is told with its number", readme.contains("| `" + name + "` " + number(name) + " |"));
        }
        for (String row : new String[] {"| -10 less a place |", "| -10 less a FAULT |", "| -20 less i |"}) {
            Due.isTrue("what is told by " + row, readme.contains(row));
        }
    }
}
