import java.io.IOException;
import java.lang.reflect.Method;
import java.lang.reflect.Modifier;
import java.nio.file.Files;
import java.nio.file.Path;
import java.util.List;
import java.util.regex.Matcher;
import java.util.regex.Pattern;

/**
 * What README.md shows holds: each example is run, line by line, and the answer that stands behind
 * a call must be the call's; and each call of the face is named in the table.
 */
public final class WordTrieReadmeTest {
    private static final Pattern CALL = Pattern.compile(
            "words\\.(\\w+)\\((.*?)\\);(?: +// (throws \\w+|[^:]+)(?::.*)?)?");
    private static final Pattern APPENDS = Pattern.compile(
            "for \\(char letter : \"(.*)\"\\.toCharArray\\(\\)\\) words\\.append\\(letter\\);");
    private static final String NEW_OBJECT = "WordTrie words = new WordTrie();";

    private static int examples = 0;
    private static int checks = 0;
    private static int wrong = 0;

    private static void check(String what, String due, String got) {
        checks++;
        if (!due.equals(got)) {
            wrong++;
            System.out.println("README.md: " + what + ": answered " + got + ", due is " + due);
        }
    }

    private static int argumentOf(String text) {
        if (text.startsWith("'")) {
            return text.charAt(1);
        }
        return text.isEmpty() ? 0 : Integer.parseInt(text);
    }

    /** A call without an answer behind it must answer, whatever it is. */
    private static void runCall(WordTrie words, String line, Matcher parts) {
        String got = Calls.answer(words, parts.group(1), argumentOf(parts.group(2)));
        String due = parts.group(3);
        if (due == null) {
            check(line, "no exception", got.startsWith("throws.") ? got : "no exception");
        } else {
            check(line, due.replace("throws ", "throws.").replace("'", ""), got);
        }
    }

    private static void runLine(WordTrie words, String line) {
        Matcher call = CALL.matcher(line);
        Matcher appends = APPENDS.matcher(line);
        if (call.matches()) {
            runCall(words, line, call);
        } else if (appends.matches()) {
            for (char letter : appends.group(1).toCharArray()) {
                words.append(letter);
            }
        } else {
            check(line, "a line that this test can read", "another one");
        }
    }

    private static void runExamples(List<String> lines) {
        boolean isExample = false;
        WordTrie words = null;
        for (String line : lines) {
            if (line.startsWith("```")) {
                isExample = line.equals("```java");
                words = null;
            } else if (isExample && line.equals(NEW_OBJECT)) {
                examples++;
                words = new WordTrie();
            } else if (isExample) {
                runLine(words, line);
            }
        }
        check("examples", "3", String.valueOf(examples));
    }

    private static void checkTable(List<String> lines) {
        StringBuilder table = new StringBuilder();
        for (String line : lines) {
            table.append(line.startsWith("| ") ? line : "");
        }
        for (Method method : WordTrie.class.getDeclaredMethods()) {
            if (Modifier.isPublic(method.getModifiers())) {
                boolean isThere = table.indexOf("`" + method.getName() + "`") >= 0;
                check("table", method.getName(), isThere ? method.getName() : "not there");
            }
        }
    }

    public static void main(String[] args) throws IOException {
        List<String> lines = Files.readAllLines(Path.of("README.md"));
        runExamples(lines);
        checkTable(lines);
        System.out.println(wrong == 0 ? checks + " answers are as README.md shows them" : wrong + " are not");
        System.exit(wrong == 0 ? 0 : 1);
    }
}
