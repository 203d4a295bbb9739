import java.util.ArrayDeque;
import java.util.ArrayList;
import java.util.Deque;
import java.util.List;
import java.util.NoSuchElementException;
import java.util.TreeMap;
import java.util.TreeSet;
import java.util.regex.Matcher;
import java.util.regex.Pattern;

/**
 * Long runs of calls, each made on a WordTrie and on a plain model of the document that holds its
 * words in a sorted map; every answer must be the same. The runs come from a fixed counting
 * generator, so they are the same each time.
 */
public final class WordTrieModelTest {
    private static final int RUNS = 4000;
    private static final int CALLS = 512;
    private static final int MAX_REPORTS = 10;

    private static long seed;
    private static int wrong = 0;

    /** The document said again in the plainest way, without a trie. */
    private static final class Model {
        private static final Pattern PROGRAM = Pattern.compile(
                "(add |remove |erase )[a-z]+(;(add |remove |erase )[a-z]+)*");

        private record Words(TreeMap<String, Integer> counts, long insertions, long removals) {
        }

        private Words now = new Words(new TreeMap<>(), 0, 0);
        private Words saved = null;
        private final Deque<Words> undos = new ArrayDeque<>();
        private final StringBuilder buffer = new StringBuilder();
        private final StringBuilder program = new StringBuilder();
        private String result = "";
        private Integer errorPosition = null;
        private Integer failedCommand = null;

        private String word() {
            return buffer.toString();
        }

        private void change(Words next) {
            undos.addLast(now);
            if (undos.size() > 8) {
                undos.removeFirst();
            }
            now = next;
        }

        private static Words with(Words old, String word, int count, long insertions, long removals) {
            TreeMap<String, Integer> counts = new TreeMap<>(old.counts);
            if (count == 0) {
                counts.remove(word);
            } else {
                counts.put(word, count);
            }
            return new Words(counts, old.insertions + insertions, old.removals + removals);
        }

        private static Words inserted(Words old, String word) {
            if (word.isEmpty() || word.indexOf('?') >= 0) {
                throw new IllegalArgumentException();
            }
            int count = old.counts.getOrDefault(word, 0);
            if (count == 99 || (count == 0 && old.counts.size() == 20)) {
                throw new IllegalStateException();
            }
            return with(old, word, count + 1, 1, 0);
        }

        private static Words removed(Words old, String word, boolean whole) {
            if (word.isEmpty() || word.indexOf('?') >= 0) {
                throw new IllegalArgumentException();
            }
            if (!old.counts.containsKey(word)) {
                throw new NoSuchElementException();
            }
            int count = old.counts.get(word);
            int amount = whole ? count : 1;
            return with(old, word, count - amount, 0, amount);
        }

        int insert() {
            change(inserted(now, word()));
            int answer = now.counts.get(word());
            buffer.setLength(0);
            return answer;
        }

        int remove() {
            change(removed(now, word(), false));
            int answer = now.counts.getOrDefault(word(), 0);
            buffer.setLength(0);
            return answer;
        }

        int erase() {
            int answer = now.counts.getOrDefault(word(), 0);
            change(removed(now, word(), true));
            buffer.setLength(0);
            return answer;
        }

        int clear() {
            int words = now.counts.size();
            change(new Words(new TreeMap<>(), now.insertions, now.removals + occurrences("")));
            return words;
        }

        int type(char character) {
            if ("abcdefghijklmnopqrstuvwxyz?".indexOf(character) < 0) {
                throw new IllegalArgumentException();
            }
            if (buffer.length() == 10) {
                throw new IllegalStateException();
            }
            return buffer.append(character).length();
        }

        int eraseLast() {
            if (buffer.length() == 0) {
                throw new IllegalStateException();
            }
            buffer.setLength(buffer.length() - 1);
            return buffer.length();
        }

        private int occurrences(String prefix) {
            int sum = 0;
            for (String word : now.counts.keySet()) {
                sum += word.startsWith(prefix) ? now.counts.get(word) : 0;
            }
            return sum;
        }

        private int words(String prefix) {
            int sum = 0;
            for (String word : now.counts.keySet()) {
                sum += word.startsWith(prefix) ? 1 : 0;
            }
            return sum;
        }

        private int continuations() {
            TreeSet<Character> letters = new TreeSet<>();
            for (String word : now.counts.keySet()) {
                if (word.startsWith(word()) && word.length() > buffer.length()) {
                    letters.add(word.charAt(buffer.length()));
                }
            }
            return letters.size();
        }

        private int longestPrefix() {
            int length = buffer.length();
            while (length > 0 && words(buffer.substring(0, length)) == 0) {
                length--;
            }
            return length;
        }

        private int shortestUniquePrefix() {
            if (!now.counts.containsKey(word())) {
                throw new NoSuchElementException();
            }
            for (int length = 1; length <= buffer.length(); length++) {
                if (words(buffer.substring(0, length)) == 1) {
                    return length;
                }
            }
            throw new NoSuchElementException();
        }

        private int rank() {
            noQuestionMark();
            return now.counts.headMap(word()).size();
        }

        private void noQuestionMark() {
            if (buffer.indexOf("?") >= 0) {
                throw new IllegalArgumentException();
            }
        }

        private int store(String word) {
            if (word == null) {
                throw new NoSuchElementException();
            }
            result = word;
            return word.length();
        }

        private List<String> byCount() {
            List<String> words = new ArrayList<>(now.counts.keySet());
            words.sort((a, b) -> now.counts.get(b) - now.counts.get(a));
            return words;
        }

        private static String nth(List<String> words, int rank) {
            return rank < 0 || rank >= words.size() ? null : words.get(rank);
        }

        private int complete() {
            for (String word : byCount()) {
                if (word.startsWith(word())) {
                    return store(word);
                }
            }
            throw new NoSuchElementException();
        }

        private List<String> matches() {
            Pattern pattern = Pattern.compile(word().replace('?', '.'));
            List<String> matches = new ArrayList<>();
            for (String word : now.counts.keySet()) {
                if (pattern.matcher(word).matches()) {
                    matches.add(word);
                }
            }
            return matches;
        }

        /** The recursion of the definition: the last characters are kept, replaced, or one goes. */
        private static int distance(String a, String b, int[][] known) {
            if (a.isEmpty() || b.isEmpty()) {
                return a.length() + b.length();
            }
            if (known[a.length()][b.length()] == 0) {
                String shortA = a.substring(0, a.length() - 1);
                String shortB = b.substring(0, b.length() - 1);
                int last = a.charAt(a.length() - 1) == b.charAt(b.length() - 1) ? 0 : 1;
                int best = distance(shortA, shortB, known) + last;
                best = Math.min(best, distance(a, shortB, known) + 1);
                best = Math.min(best, distance(shortA, b, known) + 1);
                known[a.length()][b.length()] = best + 1;
            }
            return known[a.length()][b.length()] - 1;
        }

        private int distanceTo(String word) {
            return distance(word, word(), new int[11][11]);
        }

        private int within(int limit) {
            if (limit < 0 || limit > 9) {
                throw new IllegalArgumentException();
            }
            int within = 0;
            for (String word : now.counts.keySet()) {
                within += distanceTo(word) <= limit ? 1 : 0;
            }
            return within;
        }

        private int findNearest() {
            String nearest = null;
            for (String word : byCount()) {
                if (nearest == null || distanceTo(word) < distanceTo(nearest)) {
                    nearest = word;
                }
            }
            store(nearest);
            return distanceTo(nearest);
        }

        private int nodes() {
            TreeSet<String> prefixes = new TreeSet<>();
            for (String word : now.counts.keySet()) {
                for (int length = 1; length <= word.length(); length++) {
                    prefixes.add(word.substring(0, length));
                }
            }
            return prefixes.size();
        }

        private int height() {
            int height = 0;
            for (String word : now.counts.keySet()) {
                height = Math.max(height, word.length());
            }
            return height;
        }

        private double meanLength() {
            double sum = 0;
            for (String word : now.counts.keySet()) {
                sum += word.length();
            }
            if (now.counts.isEmpty()) {
                throw new ArithmeticException();
            }
            return sum / now.counts.size();
        }

        private float prefixShare() {
            if (now.counts.isEmpty()) {
                throw new ArithmeticException();
            }
            return (float) occurrences(word()) / (float) occurrences("");
        }

        private int append(char character) {
            if (program.length() == 60) {
                throw new IllegalStateException();
            }
            return program.append(character).length();
        }

        private static boolean goesOn(String text) {
            Matcher matcher = PROGRAM.matcher(text);
            return matcher.matches() || matcher.hitEnd();
        }

        private static int errorIn(String text) {
            for (int length = 1; length <= text.length(); length++) {
                if (!goesOn(text.substring(0, length))) {
                    return length - 1;
                }
            }
            return text.length();
        }

        int run() {
            String text = program.toString();
            program.setLength(0);
            if (!PROGRAM.matcher(text).matches()) {
                errorPosition = errorIn(text);
                throw new IllegalArgumentException();
            }
            String[] commands = text.split(";");
            Words next = now;
            for (int index = 0; index < commands.length; index++) {
                String[] parts = commands[index].split(" ");
                try {
                    next = carryOut(next, parts[0], parts[1]);
                } catch (IllegalStateException | NoSuchElementException e) {
                    failedCommand = index;
                    throw new UnsupportedOperationException();
                }
            }
            change(next);
            return commands.length;
        }

        private static Words carryOut(Words old, String keyword, String word) {
            if (word.length() > 10) {
                throw new IllegalStateException();
            }
            return keyword.equals("add") ? inserted(old, word)
                    : removed(old, word, keyword.equals("erase"));
        }

        private static int stored(Integer number) {
            if (number == null) {
                throw new NoSuchElementException();
            }
            return number;
        }

        private char resultAt(int index) {
            if (index < 0 || index >= result.length()) {
                throw new IndexOutOfBoundsException();
            }
            return result.charAt(index);
        }

        private int undo() {
            if (undos.isEmpty()) {
                throw new IllegalStateException();
            }
            now = undos.removeLast();
            return undos.size();
        }

        private void restore() {
            if (saved == null) {
                throw new IllegalStateException();
            }
            now = saved;
            undos.clear();
        }

        Object answer(String call, int argument) {
            switch (call) {
                case "type": return type((char) argument);
                case "eraseLast": return eraseLast();
                case "emptyBuffer": buffer.setLength(0); return "";
                case "insert": return insert();
                case "remove": return remove();
                case "erase": return erase();
                case "clear": return clear();
                case "contains": return now.counts.containsKey(word());
                case "count": return now.counts.getOrDefault(word(), 0);
                case "wordsWithPrefix": return words(word());
                case "occurrencesWithPrefix": return occurrences(word());
                case "continuations": return continuations();
                case "longestPrefix": return longestPrefix();
                case "shortestUniquePrefix": return shortestUniquePrefix();
                case "rank":
                case "rankByComparing": return rank();
                case "findByRank": return store(nth(new ArrayList<>(now.counts.keySet()), argument));
                case "findByCount": return store(nth(byCount(), argument));
                case "findNext": noQuestionMark(); return store(now.counts.higherKey(word()));
                case "findPrevious": noQuestionMark(); return store(now.counts.lowerKey(word()));
                case "complete": return complete();
                case "countMatches": return matches().size();
                case "findMatch": return store(nth(matches(), 0));
                case "wordsWithin":
                case "wordsWithinByTrie": return within(argument);
                case "findNearest": return findNearest();
                case "distanceToResult": return distanceTo(result);
                case "wordCount": return now.counts.size();
                case "occurrences": return occurrences("");
                case "nodeCount":
                case "nodeCountByNeighbours": return nodes();
                case "height": return height();
                case "insertions": return now.insertions;
                case "removals": return now.removals;
                case "meanLength": return meanLength();
                case "prefixShare": return prefixShare();
                case "isConsistent": return true;
                case "append": return append((char) argument);
                case "run": return run();
                case "errorPosition": return stored(errorPosition);
                case "failedCommand": return stored(failedCommand);
                case "resultAt": return resultAt(argument);
                case "undo": return undo();
                case "save": saved = now; return "";
                case "restore": restore(); return "";
                default: throw new AssertionError(call);
            }
        }
    }

    private static final String[] QUERIES = {
        "contains", "count", "wordsWithPrefix", "occurrencesWithPrefix", "continuations",
        "longestPrefix", "shortestUniquePrefix", "rank", "rankByComparing", "findByRank",
        "findByCount", "findNext", "findPrevious", "complete", "countMatches", "findMatch",
        "wordsWithin", "wordsWithinByTrie", "findNearest", "distanceToResult", "wordCount",
        "occurrences", "nodeCount", "nodeCountByNeighbours", "height", "insertions", "removals",
        "meanLength", "prefixShare", "isConsistent", "errorPosition", "failedCommand", "resultAt",
    };

    private static int number(int bound) {
        seed = seed * 6364136223846793005L + 1442695040888963407L;
        return (int) ((seed >>> 33) % bound);
    }

    private static int argumentFor(String call) {
        int[] edges = {Integer.MIN_VALUE, -1, 10, 11, 20, 21, 26, 100, Integer.MAX_VALUE};
        if (number(12) == 0) {
            return edges[number(edges.length)];
        }
        return number(call.startsWith("findBy") ? 20 : 10);
    }

    /** One run on one object; what is typed comes from few letters, so that words meet. */
    private static final class Run {
        private final WordTrie trie = new WordTrie();
        private final Model model = new Model();
        private final StringBuilder story = new StringBuilder();
        private final int letters;
        private final int longest;
        private int calls = 0;
        private boolean failed = false;

        Run(int letters, int longest) {
            this.letters = letters;
            this.longest = longest;
        }

        private boolean goesOn() {
            return calls < CALLS && !failed;
        }

        private void make(String call, int argument) {
            if (!goesOn()) {
                return;
            }
            calls++;
            String due;
            try {
                due = model.answer(call, argument).toString();
            } catch (RuntimeException e) {
                due = "throws." + e.getClass().getSimpleName();
            }
            String got = Calls.answer(trie, call, argument);
            story.append(call).append('(').append(argument).append(")=").append(got).append(' ');
            if (!got.equals(due)) {
                failed = true;
                wrong++;
                System.out.println("call " + calls + ": " + call + "(" + argument + ") answered "
                        + got + ", due is " + due + " after " + story);
            }
        }

        private char letter() {
            return (char) ('a' + number(letters));
        }

        private String someWord() {
            StringBuilder word = new StringBuilder();
            int length = 1 + number(longest);
            while (word.length() < length) {
                word.append(letter());
            }
            return word.toString();
        }

        private void typeWord() {
            if (number(3) > 0) {
                make("emptyBuffer", 0);
            }
            for (char letter : someWord().toCharArray()) {
                make("type", number(25) == 0 ? '?' : letter);
            }
        }

        private void typePattern() {
            make("emptyBuffer", 0);
            for (char letter : someWord().toCharArray()) {
                make("type", number(2) == 0 ? '?' : letter);
            }
            make("countMatches", 0);
            make("findMatch", 0);
        }

        private void typeAnything() {
            char[] edges = {'`', '{', 'A', '>', '@', ' ', 0, 255, 0xffff, 'a', 'z', '?'};
            make("type", edges[number(edges.length)]);
        }

        private String someProgram() {
            String[] keywords = {"add ", "add ", "add ", "remove ", "erase "};
            StringBuilder text = new StringBuilder();
            int commands = 1 + number(5);
            for (int index = 0; index < commands; index++) {
                String word = number(30) == 0 ? "aaaaaaaaaaa" : someWord();
                text.append(index == 0 ? "" : ";").append(keywords[number(5)]).append(word);
            }
            return text.toString();
        }

        private void appendProgram() {
            StringBuilder text = new StringBuilder(someProgram());
            char[] wrongs = {' ', ';', 'A', '?', 'd', '{', '`', 0, 0x100};
            if (number(4) == 0) {
                text.setCharAt(number(text.length()), wrongs[number(wrongs.length)]);
            } else if (number(4) == 0) {
                text.setLength(number(text.length()));
            }
            for (char character : text.toString().toCharArray()) {
                make("append", character);
            }
            make("run", 0);
            make("errorPosition", 0);
            make("failedCommand", 0);
        }

        private void query() {
            String call = QUERIES[number(QUERIES.length)];
            make(call, argumentFor(call));
        }

        private void spellResult() {
            for (int index = -1; index <= model.result.length(); index++) {
                make("resultAt", index);
            }
        }

        private void step() {
            switch (number(16)) {
                case 0: case 1: case 2: case 3: case 4:
                    typeWord();
                    make("insert", 0);
                    break;
                case 5:
                    typeWord();
                    make(number(2) == 0 ? "remove" : "erase", 0);
                    break;
                case 6: typeWord(); break;
                case 7: typePattern(); break;
                case 8: typeAnything(); break;
                case 9: appendProgram(); break;
                case 10: make("undo", 0); break;
                case 11:
                    make(number(3) == 0 ? "restore" : number(2) == 0 ? "save" : "eraseLast", 0);
                    break;
                case 12: make(number(8) == 0 ? "clear" : "undo", 0); break;
                case 13: spellResult(); break;
                default: break;
            }
            int queries = number(8);
            for (int index = 0; index < queries; index++) {
                query();
            }
        }

        private void finish() {
            for (int rank = 0; rank < 20; rank++) {
                make("findByRank", rank);
                spellResult();
            }
        }

        void make() {
            while (calls < CALLS - 100 && !failed) {
                step();
            }
            finish();
        }
    }

    public static void main(String[] args) {
        for (int run = 0; run < RUNS && wrong < MAX_REPORTS; run++) {
            seed = run;
            new Run(run % 5 == 0 ? 26 : 1 + run % 4, 1 + run % 10).make();
        }
        System.out.println(wrong == 0 ? RUNS + " runs answered as the model" : wrong + " runs went wrong");
        System.exit(wrong == 0 ? 0 : 1);
    }
}
