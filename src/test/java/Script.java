import java.util.ArrayList;
import java.util.Collections;
import java.util.LinkedHashMap;
import java.util.List;
import java.util.Map;
import java.util.Set;
import java.util.TreeSet;
import java.util.regex.Matcher;
import java.util.regex.Pattern;

/**
 * Runs of calls, written as texts, each run on a new object. Not a test of its own. The steps of a
 * script stand between blanks:
 * <pre>
 * &lt;cat&gt;          empties the word buffer and types the word
 * +cat  +cat*98   empties the word buffer, types the word and inserts it, once or so many times
 * [add_cat]       appends the characters to the program buffer, _ for a blank
 * rank            the call, which must not throw
 * rank=3          the call, which must answer this
 * findByRank:2=3  the call with an argument; a character is told as type:a or type:#97
 * rank!IAE        the call, which must throw this
 * words=a:1,b:2   a reading: what the object holds, as other calls tell it
 * </pre>
 * Readings are result, buffer (from the first question mark on told as question marks), program
 * (its length), words, undos (how many) and saved (its words). They are taken on twins, objects to
 * which the same calls were made, so that the object itself is left alone.
 *
 * After each call written with an answer or an exception, all that the object holds is read and
 * must be as before, but for the parts that this call is there to change; a call that throws may
 * change nothing, but for what run stores. After run the program buffer must be empty.
 */
final class Script {
    /** The document says nothing of an object after so many calls. */
    private static final int MAX_CALLS = 512;
    private static final Pattern STEP = Pattern.compile("(\\w+)(?::(\\S+?))?(?:([=!])(\\S*))?");
    private static final Map<String, String> EXCEPTIONS = Map.of(
            "IAE", "IllegalArgumentException", "ISE", "IllegalStateException",
            "NSE", "NoSuchElementException", "IOOBE", "IndexOutOfBoundsException",
            "AE", "ArithmeticException", "UOE", "UnsupportedOperationException");

    private static final Map<String, Set<String>> MAY_CHANGE = mayChange();
    private static final Set<String> THROWN = new TreeSet<>();
    private static final Set<String> ANSWERED = new TreeSet<>();
    private static int checks = 0;
    private static int wrong = 0;

    private record Made(String call, int argument) {
    }

    private final String sentence;
    private final List<Made> made = new ArrayList<>();
    private final StringBuilder story = new StringBuilder();
    private final Twin object = new Twin(Collections.emptyList());
    private Map<String, String> lastReading = null;

    private Script(String sentence) {
        this.sentence = sentence;
    }

    /** Runs the steps; the sentence of the document is told if an answer is not as due. */
    static void check(String sentence, String... steps) {
        Script script = new Script(sentence);
        for (String step : String.join(" ", steps).trim().split(" +")) {
            script.story.append(' ').append(step);
            if (!script.isRight(step)) {
                wrong++;
                return;
            }
        }
    }

    /** The calls that were seen to throw, each with the exception. */
    static Set<String> thrown() {
        return THROWN;
    }

    /** The calls that were seen to answer. */
    static Set<String> answered() {
        return ANSWERED;
    }

    static void tell(boolean holds, String what) {
        checks++;
        if (!holds) {
            wrong++;
            System.out.println(what);
        }
    }

    /** The end of a test: what it found, and its exit code. */
    static void finish() {
        System.out.println(wrong == 0 ? checks + " answers are as due" : wrong + " scripts went wrong");
        System.exit(wrong == 0 ? 0 : 1);
    }

    // ---- steps

    private boolean isRight(String step) {
        if (step.startsWith("<")) {
            return plainCall("emptyBuffer", 0) && type(step.substring(1, step.length() - 1));
        }
        if (step.startsWith("+")) {
            return insert(step.substring(1));
        }
        if (step.startsWith("[")) {
            return append(step.substring(1, step.length() - 1).replace('_', ' '));
        }
        Matcher parts = STEP.matcher(step);
        if (!parts.matches()) {
            throw new AssertionError("no step: " + step);
        }
        if (isReading(parts.group(1))) {
            return isDue(parts.group(4), read(parts.group(1)));
        }
        return call(parts.group(1), argumentOf(parts.group(2)), parts.group(3), parts.group(4));
    }

    private boolean type(String word) {
        boolean right = true;
        for (int index = 0; index < word.length(); index++) {
            right = right && plainCall("type", word.charAt(index));
        }
        return right;
    }

    private boolean insert(String wordAndTimes) {
        String[] parts = wordAndTimes.split("\\*");
        int times = parts.length == 1 ? 1 : Integer.parseInt(parts[1]);
        boolean right = plainCall("emptyBuffer", 0);
        for (int count = 0; count < times; count++) {
            right = right && type(parts[0]) && plainCall("insert", 0);
        }
        return right;
    }

    private boolean append(String text) {
        boolean right = true;
        for (int index = 0; index < text.length(); index++) {
            right = right && plainCall("append", text.charAt(index));
        }
        return right;
    }

    private static int argumentOf(String text) {
        if (text == null) {
            return 0;
        }
        if (text.startsWith("#")) {
            return Integer.parseInt(text.substring(1));
        }
        return text.matches("-?\\d+") ? Integer.parseInt(text) : text.charAt(0);
    }

    private boolean plainCall(String call, int argument) {
        lastReading = null;
        made.add(new Made(call, argument));
        String got = object.answer(call, argument);
        if (got.startsWith("throws.")) {
            return isDue("an answer", got);
        }
        return true;
    }

    private boolean call(String call, int argument, String sign, String due) {
        if (sign == null) {
            return plainCall(call, argument);
        }
        Map<String, String> before = lastReading == null ? everything() : lastReading;
        made.add(new Made(call, argument));
        String got = object.answer(call, argument);
        Map<String, String> after = everything();
        lastReading = after;
        boolean isThrown = got.startsWith("throws.");
        (isThrown ? THROWN : ANSWERED).add(call + (isThrown ? " " + got.substring(7) : ""));
        return isDue(sign.equals("!") ? "throws." + EXCEPTIONS.get(due) : due, got)
                && changesNoMore(before, after, isThrown ? partsOfThrown(call, got) : MAY_CHANGE.get(call))
                && (!call.equals("run") || isDue("program=0", "program=" + read("program")));
    }

    private boolean isDue(String due, String got) {
        checks++;
        if (due.equals(got)) {
            return true;
        }
        System.out.println(sentence + ": answered " + got + ", due is " + due + " at the end of" + story);
        return false;
    }

    private boolean changesNoMore(
            Map<String, String> before, Map<String, String> after, Set<String> parts) {
        for (String part : before.keySet()) {
            checks++;
            boolean mayChange = parts != null && parts.contains(part);
            if (!mayChange && !before.get(part).equals(after.get(part))) {
                System.out.println(sentence + ": the last call changed " + part + " from "
                        + before.get(part) + " to " + after.get(part) + " in" + story);
                return false;
            }
        }
        return true;
    }

    private static Map<String, Set<String>> mayChange() {
        Map<String, Set<String>> parts = new LinkedHashMap<>();
        for (String call : new String[] {"type", "eraseLast", "emptyBuffer"}) {
            parts.put(call, Set.of("buffer"));
        }
        for (String call : new String[] {"insert", "remove", "erase"}) {
            parts.put(call, Set.of("buffer", "words", "numbers", "undo"));
        }
        for (String call : new String[] {"findByRank", "findByCount", "findNext", "findPrevious",
                "complete", "findMatch", "findNearest"}) {
            parts.put(call, Set.of("result"));
        }
        for (String call : new String[] {"clear", "undo", "restore"}) {
            parts.put(call, Set.of("words", "numbers", "undo"));
        }
        parts.put("append", Set.of("program"));
        parts.put("run", Set.of("program", "words", "numbers", "undo"));
        parts.put("save", Set.of("saved"));
        return parts;
    }

    private static Set<String> partsOfThrown(String call, String got) {
        if (!call.equals("run")) {
            return Set.of();
        }
        return Set.of("program", got.endsWith("UnsupportedOperationException")
                ? "failedCommand" : "errorPosition");
    }

    // ---- readings, each on twins

    /** A new object to which calls were made; it counts them. */
    private static final class Twin {
        private final WordTrie trie = new WordTrie();
        private int calls = 0;

        Twin(List<Made> calls) {
            for (Made made : calls) {
                answer(made.call, made.argument);
            }
        }

        String answer(String call, int argument) {
            calls++;
            if (calls > MAX_CALLS) {
                throw new AssertionError("more calls than the document speaks of");
            }
            return Calls.answer(trie, call, argument);
        }

        String spelledResult() {
            StringBuilder word = new StringBuilder();
            for (int index = 0; index < 11; index++) {
                String letter = answer("resultAt", index);
                if (letter.startsWith("throws.")) {
                    break;
                }
                word.append(letter);
            }
            return word.toString();
        }
    }

    private static List<Made> and(List<Made> calls, String... more) {
        List<Made> all = new ArrayList<>(calls);
        for (String call : more) {
            all.add(new Made(call, 0));
        }
        return all;
    }

    private static boolean isReading(String name) {
        return Set.of("result", "buffer", "program", "words", "undos", "saved").contains(name);
    }

    private String read(String name) {
        switch (name) {
            case "result": return new Twin(made).spelledResult();
            case "buffer": return bufferOf(made);
            case "program": return String.valueOf(programLengthOf(made));
            case "words": return wordsOf(made);
            case "undos": return String.valueOf(undosOf(made).size());
            default: return wordsOf(and(made, "restore"));
        }
    }

    private Map<String, String> everything() {
        Map<String, String> parts = new LinkedHashMap<>();
        parts.put("result", new Twin(made).spelledResult());
        parts.put("buffer", bufferOf(made));
        parts.put("program", programOf(made));
        parts.put("errorPosition", new Twin(made).answer("errorPosition", 0));
        parts.put("failedCommand", new Twin(made).answer("failedCommand", 0));
        parts.put("words", wordsOf(made));
        parts.put("numbers", numbersOf(made));
        parts.put("undo", String.join(" ", undosOf(made)));
        parts.put("saved", savedOf(made));
        return parts;
    }

    /** The word is inserted among no others and read as the result; a question mark hinders that. */
    private static String bufferOf(List<Made> calls) {
        Twin twin = new Twin(and(calls, "clear"));
        int hidden = 0;
        while (twin.answer("insert", 0).startsWith("throws.")) {
            if (twin.answer("eraseLast", 0).startsWith("throws.")) {
                return "?".repeat(hidden);
            }
            hidden++;
        }
        twin.answer("findByRank", 0);
        return twin.spelledResult() + "?".repeat(hidden);
    }

    private static int programLengthOf(List<Made> calls) {
        Twin twin = new Twin(calls);
        int room = 0;
        while (!twin.answer("append", 'a').startsWith("throws.")) {
            room++;
        }
        return 60 - room;
    }

    private static String programOf(List<Made> calls) {
        List<Made> ran = and(calls, "clear", "run");
        Twin twin = new Twin(and(calls, "clear"));
        return programLengthOf(calls) + " " + twin.answer("run", 0) + " "
                + twin.answer("errorPosition", 0) + " " + twin.answer("failedCommand", 0) + " " + wordsOf(ran);
    }

    private static String wordsOf(List<Made> calls) {
        StringBuilder words = new StringBuilder();
        int number = Integer.parseInt(new Twin(calls).answer("wordCount", 0));
        for (int rank = 0; rank < number; rank++) {
            Twin twin = new Twin(calls);
            twin.answer("findByRank", rank);
            String word = twin.spelledResult();
            twin.answer("emptyBuffer", 0);
            for (char letter : word.toCharArray()) {
                twin.answer("type", letter);
            }
            words.append(rank == 0 ? "" : ",").append(word).append(':').append(twin.answer("count", 0));
        }
        return words.toString();
    }

    private static String numbersOf(List<Made> calls) {
        Twin twin = new Twin(calls);
        return twin.answer("insertions", 0) + "/" + twin.answer("removals", 0);
    }

    /** For each call that can be undone, what undo answers and brings back. */
    private static List<String> undosOf(List<Made> calls) {
        List<String> undos = new ArrayList<>();
        List<Made> undone = calls;
        for (int count = 0; count < 20; count++) {
            String answer = new Twin(undone).answer("undo", 0);
            if (answer.startsWith("throws.")) {
                break;
            }
            undone = and(undone, "undo");
            undos.add(answer + "(" + wordsOf(undone) + " " + numbersOf(undone) + ")");
        }
        return undos;
    }

    private static String savedOf(List<Made> calls) {
        String answer = new Twin(calls).answer("restore", 0);
        List<Made> restored = and(calls, "restore");
        return answer.startsWith("throws.") ? answer : wordsOf(restored) + " " + numbersOf(restored);
    }
}
