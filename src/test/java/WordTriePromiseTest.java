/**
 * For each promise of the document: ordinary inputs, the edges that the document names, and wrong
 * inputs. An answer is told as a text, an exception as throws. and its name.
 */
public final class WordTriePromiseTest {
    private static final String BAD_ARGUMENT = "throws.IllegalArgumentException";
    private static final String BAD_STATE = "throws.IllegalStateException";
    private static final String NO_ELEMENT = "throws.NoSuchElementException";
    private static final String NO_INDEX = "throws.IndexOutOfBoundsException";
    private static final String ARITHMETIC = "throws.ArithmeticException";
    private static final String UNSUPPORTED = "throws.UnsupportedOperationException";

    private static int checks = 0;
    private static int wrong = 0;

    private interface Call {
        Object make();
    }

    private interface VoidCall {
        void make();
    }

    private static String answer(Call call) {
        try {
            return String.valueOf(call.make());
        } catch (RuntimeException e) {
            return "throws." + e.getClass().getSimpleName();
        }
    }

    private static String outcome(VoidCall call) {
        return answer(() -> {
            call.make();
            return "";
        });
    }

    private static void due(int promise, String what, Object want, Call call) {
        checks++;
        String got = answer(call);
        if (!got.equals(String.valueOf(want))) {
            wrong++;
            System.out.println("promise " + promise + ": " + what + " answered " + got
                    + ", due is " + want);
        }
    }

    // ---- how the tests make their objects

    private static WordTrie typed(WordTrie x, String word) {
        x.emptyBuffer();
        for (char character : word.toCharArray()) {
            x.type(character);
        }
        return x;
    }

    /** A dictionary with the words, inserted in this order, and an empty buffer. */
    private static WordTrie with(String... words) {
        WordTrie x = new WordTrie();
        for (String word : words) {
            typed(x, word).insert();
        }
        return x;
    }

    private static WordTrie programmed(WordTrie x, String program) {
        for (char character : program.toCharArray()) {
            x.append(character);
        }
        return x;
    }

    private static String result(WordTrie x) {
        StringBuilder result = new StringBuilder();
        for (int index = 0; index < 11; index++) {
            try {
                result.append(x.resultAt(index));
            } catch (IndexOutOfBoundsException e) {
                break;
            }
        }
        return result.toString();
    }

    /** The answer of a call that finds a word, and the word. */
    private static String found(WordTrie x, Call call) {
        return answer(call) + " " + result(x);
    }

    private static String words(WordTrie x) {
        StringBuilder words = new StringBuilder();
        for (int rank = 0; rank < x.wordCount(); rank++) {
            x.findByRank(rank);
            String word = result(x);
            words.append(word).append('=').append(typed(x, word).count()).append(' ');
        }
        return words.append(x.insertions()).append('/').append(x.removals()).toString();
    }

    private static String bufferOf(WordTrie x) {
        StringBuilder buffer = new StringBuilder();
        buffer.append(x.longestPrefix()).append(' ').append(x.countMatches()).append(' ')
                .append(x.distanceToResult()).append(' ').append(answer(x::rank)).append(' ');
        int length = 0;
        while (!answer(x::eraseLast).equals(BAD_STATE)) {
            length++;
        }
        return buffer.append(length).toString();
    }

    private static int programLength(WordTrie x) {
        int room = 0;
        while (!answer(() -> x.append('a')).equals(BAD_STATE)) {
            room++;
        }
        return 60 - room;
    }

    /** Everything that later calls can tell of the object; it is used up by this. */
    private static String everything(WordTrie x) {
        StringBuilder all = new StringBuilder();
        all.append(result(x)).append('|').append(bufferOf(x));
        all.append('|').append(answer(x::errorPosition)).append('|').append(answer(x::failedCommand));
        all.append('|').append(programLength(x)).append('|').append(words(x));
        String undone = answer(x::undo);
        while (!undone.equals(BAD_STATE)) {
            all.append('|').append(undone).append(' ').append(words(x));
            undone = answer(x::undo);
        }
        all.append('|').append(outcome(x::restore)).append(' ').append(words(x));
        return all.toString();
    }

    private interface Step {
        Object make(WordTrie x);
    }

    /** The call throws what is due, and the object is afterwards as one that never had the call. */
    private static void throwsUnchanged(int promise, String what, String want, String buffer, Step step) {
        WordTrie called = busy(buffer);
        WordTrie spared = busy(buffer);
        due(promise, what, want, () -> step.make(called));
        String after = everything(called);
        due(promise, what + " changes nothing", everything(spared), () -> after);
    }

    /** Every part of the object holds something. */
    private static WordTrie busy(String buffer) {
        WordTrie x = with("dog", "cat", "cat", "car", "do");
        x.save();
        typed(x, "dog").erase();
        answer(programmed(x, "add dog;remove cow")::run);
        answer(programmed(x, "add d!")::run);
        programmed(x, "add ");
        x.findByRank(1);
        return typed(x, buffer);
    }

    private static WordTrie full() {
        WordTrie x = new WordTrie();
        for (char letter = 'a'; letter < 'a' + 20; letter++) {
            typed(x, String.valueOf(letter)).insert();
        }
        return x;
    }

    /** The word 99 times. */
    private static WordTrie often(String word) {
        WordTrie x = new WordTrie();
        for (int count = 0; count < 99; count++) {
            typed(x, word).insert();
        }
        return x;
    }

    // ---- promises 1 to 4: a new object and the word buffer

    private static void newObject() {
        WordTrie x = new WordTrie();
        due(1, "wordCount of a new object", 0, x::wordCount);
        due(1, "occurrences of a new object", 0, x::occurrences);
        due(1, "nodeCount of a new object", 0, x::nodeCount);
        due(1, "insertions of a new object", 0, x::insertions);
        due(1, "removals of a new object", 0, x::removals);
        due(1, "the result of a new object", NO_INDEX, () -> x.resultAt(0));
        due(1, "the buffer of a new object", BAD_STATE, x::eraseLast);
        due(1, "the program buffer of a new object", 1, () -> x.append('x'));
        due(1, "undo of a new object", BAD_STATE, x::undo);
        WordTrie other = with("a");
        due(1, "a second object has its own words", 0, () -> new WordTrie().wordCount());
        due(1, "the first object keeps its words", 1, other::wordCount);
    }

    private static void type() {
        WordTrie x = new WordTrie();
        String[] wrongs = {"`", "{", "A", "Z", " ", ">", "@", "\0", "\u00e9", "\uffff"};
        for (String character : wrongs) {
            throwsUnchanged(2, "type of " + (int) character.charAt(0), BAD_ARGUMENT, "ca",
                    y -> y.type(character.charAt(0)));
        }
        String ten = "az?bcdefgh";
        for (int index = 0; index < 10; index++) {
            char character = ten.charAt(index);
            due(2, "type of " + character, index + 1, () -> x.type(character));
        }
        due(2, "an 11th character", BAD_STATE, () -> x.type('a'));
        due(2, "a wrong 11th character", BAD_ARGUMENT, () -> x.type('A'));
        throwsUnchanged(2, "an 11th letter", BAD_STATE, "abcdefghij", y -> y.type('a'));
        throwsUnchanged(2, "an 11th question mark", BAD_STATE, "abcdefghij", y -> y.type('?'));
    }

    private static void eraseLast() {
        WordTrie x = typed(with("car", "cat"), "cat");
        due(3, "eraseLast", 2, x::eraseLast);
        due(3, "the last character is gone", 2, x::wordsWithPrefix);
        due(3, "type goes on", 3, () -> x.type('r'));
        due(3, "the new word", true, x::contains);
        due(3, "eraseLast again", 2, x::eraseLast);
        due(3, "and again", 1, x::eraseLast);
        due(3, "to the first", 0, x::eraseLast);
        due(3, "of an empty buffer", BAD_STATE, x::eraseLast);
        throwsUnchanged(3, "eraseLast of an empty buffer", BAD_STATE, "", WordTrie::eraseLast);
    }

    private static void emptyBuffer() {
        WordTrie x = typed(with("cat"), "cat");
        x.emptyBuffer();
        due(4, "the buffer is empty", BAD_STATE, x::eraseLast);
        due(4, "no word is contained", false, x::contains);
        due(4, "emptying an empty buffer", "", () -> outcome(x::emptyBuffer));
        due(4, "the words stay", 1, x::wordCount);
        due(4, "type starts anew", 1, () -> x.type('c'));
    }

    // ---- promises 5 to 8: changes

    private static void insert() {
        WordTrie x = new WordTrie();
        due(5, "the first insert", 1, () -> typed(x, "cat").insert());
        due(5, "the buffer is empty", BAD_STATE, x::eraseLast);
        due(5, "the second insert", 2, () -> typed(x, "cat").insert());
        due(5, "a prefix of it", 1, () -> typed(x, "ca").insert());
        due(5, "a longer word", 1, () -> typed(x, "catcatcatc").insert());
        due(5, "the words", "ca=1 cat=2 catcatcatc=1 4/0", () -> words(x));
        throwsUnchanged(5, "insert of no word", BAD_ARGUMENT, "", WordTrie::insert);
        throwsUnchanged(5, "insert with a question mark", BAD_ARGUMENT, "ca?", WordTrie::insert);
        WordTrie often = often("cat");
        due(5, "the count 99", 99, () -> typed(often, "cat").count());
        due(5, "insert beyond 99", BAD_STATE, often::insert);
        due(5, "the buffer stays", 3, often::longestPrefix);
        due(5, "the count stays", 99, often::count);
        due(5, "the insertions stay", 99, often::insertions);
        due(5, "another word has room", 1, () -> typed(often, "cats").insert());
        WordTrie full = full();
        due(5, "a 21st word", BAD_STATE, () -> typed(full, "u").insert());
        due(5, "a 21st word below another", BAD_STATE, () -> typed(full, "aa").insert());
        due(5, "the buffer stays at a 21st", 1, full::eraseLast);
        due(5, "there are 20", 20, full::wordCount);
        due(5, "no node is left of it", 20, full::nodeCount);
        due(5, "a 21st word with a question mark", BAD_ARGUMENT, () -> typed(full, "?").insert());
        due(5, "one of the 20 again", 2, () -> typed(full, "t").insert());
        due(5, "a word goes", 0, () -> typed(full, "a").remove());
        due(5, "a new one comes", 1, () -> typed(full, "u").insert());
    }

    private static void remove() {
        WordTrie x = with("cat", "cat", "ca");
        due(6, "remove one of two", 1, () -> typed(x, "cat").remove());
        due(6, "the buffer is empty", BAD_STATE, x::eraseLast);
        due(6, "the word is still there", true, () -> typed(x, "cat").contains());
        due(6, "remove the last", 0, x::remove);
        due(6, "the word is gone", false, () -> typed(x, "cat").contains());
        due(6, "its node is gone", 2, x::nodeCount);
        due(6, "the words", "ca=1 3/2", () -> words(x));
        due(6, "of a word that is gone", NO_ELEMENT, () -> typed(x, "cat").remove());
        throwsUnchanged(6, "remove of no word", BAD_ARGUMENT, "", WordTrie::remove);
        throwsUnchanged(6, "remove with a question mark", BAD_ARGUMENT, "c?t", WordTrie::remove);
        throwsUnchanged(6, "remove of a prefix", NO_ELEMENT, "ca", WordTrie::remove);
        throwsUnchanged(6, "remove of a longer word", NO_ELEMENT, "cats", WordTrie::remove);
        WordTrie below = with("do", "dog");
        due(6, "remove of a word above another", 0, () -> typed(below, "do").remove());
        due(6, "its nodes stay", 3, below::nodeCount);
        due(6, "the longer word stays", "dog=1 2/1", () -> words(below));
    }

    private static void erase() {
        WordTrie x = with("cat", "cat", "cat", "car");
        due(7, "erase of three", 3, () -> typed(x, "cat").erase());
        due(7, "the buffer is empty", BAD_STATE, x::eraseLast);
        due(7, "the words", "car=1 4/3", () -> words(x));
        due(7, "the nodes", 3, x::nodeCount);
        due(7, "erase of one", 1, () -> typed(x, "car").erase());
        due(7, "nothing is left", 0, x::nodeCount);
        due(7, "erase again", NO_ELEMENT, () -> typed(x, "car").erase());
        throwsUnchanged(7, "erase of no word", BAD_ARGUMENT, "", WordTrie::erase);
        throwsUnchanged(7, "erase with a question mark", BAD_ARGUMENT, "?", WordTrie::erase);
        throwsUnchanged(7, "erase of a prefix", NO_ELEMENT, "c", WordTrie::erase);
        WordTrie often = often("z");
        due(7, "erase of 99", 99, () -> typed(often, "z").erase());
        due(7, "99 removals", 99, often::removals);
    }

    private static void clear() {
        WordTrie x = typed(with("cat", "cat", "car", "do"), "ca");
        due(8, "clear of three words", 3, x::clear);
        due(8, "no word is left", 0, x::wordCount);
        due(8, "no node is left", 0, x::nodeCount);
        due(8, "four removals", 4, x::removals);
        due(8, "four insertions", 4, x::insertions);
        due(8, "the buffer stays", 1, x::eraseLast);
        due(8, "clear of nothing", 0, x::clear);
        due(8, "still four removals", 4, x::removals);
        due(8, "both can be undone", 5, x::undo);
        due(8, "the first too", 4, x::undo);
        due(8, "the words are back", "car=1 cat=2 do=1 4/0", () -> words(x));
        due(8, "clear of 20", 20, () -> full().clear());
    }

    // ---- promises 9 to 17: queries about the buffer word

    private static void contains() {
        WordTrie x = with("cat", "cats", "z");
        String[] in = {"cat", "cats", "z"};
        String[] out = {"", "c", "ca", "catss", "at", "ca?", "?", "a", "???"};
        for (String word : in) {
            due(9, "contains " + word, true, () -> typed(x, word).contains());
        }
        for (String word : out) {
            due(9, "contains " + word, false, () -> typed(x, word).contains());
            due(10, "count of " + word, 0, () -> typed(x, word).count());
        }
        due(9, "contains leaves the buffer", 4, () -> {
            typed(x, "cats").contains();
            return x.longestPrefix();
        });
    }

    private static void count() {
        WordTrie x = with("cat", "cat", "ca", "cat");
        due(10, "count of three", 3, () -> typed(x, "cat").count());
        due(10, "count of one", 1, () -> typed(x, "ca").count());
        due(10, "count of an inner node", 0, () -> typed(x, "c").count());
        due(10, "count of no word", 0, () -> typed(x, "").count());
        due(10, "count of 99", 99, () -> typed(often("cat"), "cat").count());
    }

    private static void prefixes() {
        WordTrie x = with("car", "cat", "cat", "cats", "do", "dog", "dog", "e");
        Object[][] rows = {
            // prefix, words, occurrences, continuations, longest prefix
            {"", 6, 8, 3, 0}, {"c", 3, 4, 1, 1}, {"ca", 3, 4, 2, 2}, {"cat", 2, 3, 1, 3},
            {"cats", 1, 1, 0, 4}, {"catsx", 0, 0, 0, 4}, {"d", 2, 3, 1, 1}, {"do", 2, 3, 1, 2},
            {"e", 1, 1, 0, 1}, {"x", 0, 0, 0, 0}, {"?", 0, 0, 0, 0}, {"c?t", 0, 0, 0, 1},
            {"ca?", 0, 0, 0, 2}, {"b", 0, 0, 0, 0}, {"catzzzzzzz", 0, 0, 0, 3},
        };
        for (Object[] row : rows) {
            String prefix = (String) row[0];
            due(11, "wordsWithPrefix of " + prefix, row[1], () -> typed(x, prefix).wordsWithPrefix());
            due(12, "occurrencesWithPrefix of " + prefix, row[2], x::occurrencesWithPrefix);
            due(13, "continuations of " + prefix, row[3], x::continuations);
            due(14, "longestPrefix of " + prefix, row[4], x::longestPrefix);
        }
        due(14, "longestPrefix of a ten-letter word", 10,
                () -> typed(with("abcdefghij"), "abcdefghij").longestPrefix());
        due(13, "continuations of 20 letters", 20, () -> typed(full(), "").continuations());
        due(11, "wordsWithPrefix of 20 words", 20, () -> typed(full(), "").wordsWithPrefix());
        due(12, "occurrencesWithPrefix of 99", 99, () -> typed(often("cat"), "c").occurrencesWithPrefix());
        for (int promise = 11; promise <= 14; promise++) {
            due(promise, "an empty dictionary", 0, emptyDictionaryQuery(promise));
        }
    }

    private static Call emptyDictionaryQuery(int promise) {
        WordTrie x = typed(new WordTrie(), "");
        switch (promise) {
            case 11: return x::wordsWithPrefix;
            case 12: return x::occurrencesWithPrefix;
            case 13: return x::continuations;
            default: return typed(x, "abc")::longestPrefix;
        }
    }

    private static void shortestUniquePrefix() {
        WordTrie x = with("car", "cart", "cat", "dog", "dog", "abcdefghij", "abcdefghik");
        due(15, "dog", 1, () -> typed(x, "dog").shortestUniquePrefix());
        due(15, "cat", 3, () -> typed(x, "cat").shortestUniquePrefix());
        due(15, "cart", 4, () -> typed(x, "cart").shortestUniquePrefix());
        due(15, "ten letters", 10, () -> typed(x, "abcdefghij").shortestUniquePrefix());
        due(15, "a single word", 1, () -> typed(with("abc"), "abc").shortestUniquePrefix());
        due(15, "a word that another goes on from", NO_ELEMENT, () -> typed(x, "car").shortestUniquePrefix());
        due(15, "a prefix of one word", NO_ELEMENT, () -> typed(x, "do").shortestUniquePrefix());
        due(15, "no word", NO_ELEMENT, () -> typed(x, "").shortestUniquePrefix());
        due(15, "a question mark", NO_ELEMENT, () -> typed(x, "do?").shortestUniquePrefix());
        throwsUnchanged(15, "a word that is not there", NO_ELEMENT, "cow", WordTrie::shortestUniquePrefix);
    }

    private static void ranks() {
        WordTrie x = with("b", "ba", "bab", "bb", "d", "d");
        Object[][] rows = {
            {"", 0}, {"a", 0}, {"azzzzzzzzz", 0}, {"b", 0}, {"ba", 1}, {"baa", 2}, {"bab", 2},
            {"baba", 3}, {"bac", 3}, {"bb", 3}, {"bba", 4}, {"c", 4}, {"d", 4}, {"da", 5}, {"z", 5},
        };
        for (Object[] row : rows) {
            String word = (String) row[0];
            due(16, "rank of " + word, row[1], () -> typed(x, word).rank());
            due(17, "rankByComparing of " + word, row[1], () -> typed(x, word).rankByComparing());
        }
        due(16, "rank after 20", 20, () -> typed(full(), "zz").rank());
        due(17, "rankByComparing after 20", 20, () -> typed(full(), "zz").rankByComparing());
        due(16, "rank in an empty dictionary", 0, () -> typed(new WordTrie(), "zz").rank());
        due(17, "rankByComparing in an empty one", 0, () -> typed(new WordTrie(), "zz").rankByComparing());
        throwsUnchanged(16, "rank with a question mark", BAD_ARGUMENT, "d?", WordTrie::rank);
        throwsUnchanged(17, "rankByComparing with a question mark", BAD_ARGUMENT, "?", WordTrie::rankByComparing);
    }

    // ---- promises 18 to 28: finding words

    private static void findByRank() {
        WordTrie x = with("dog", "b", "ba", "ba", "abcdefghij");
        String[] sorted = {"10 abcdefghij", "1 b", "2 ba", "3 dog"};
        for (int index = 0; index < sorted.length; index++) {
            int rank = index;
            due(18, "findByRank " + rank, sorted[rank], () -> found(x, () -> x.findByRank(rank)));
        }
        int[] wrongs = {-1, 4, 20, Integer.MIN_VALUE, Integer.MAX_VALUE};
        for (int rank : wrongs) {
            due(18, "findByRank " + rank, NO_ELEMENT + " dog", () -> found(x, () -> x.findByRank(rank)));
            throwsUnchanged(18, "findByRank " + rank, NO_ELEMENT, "do", y -> y.findByRank(rank));
        }
        due(18, "in an empty dictionary", NO_ELEMENT, () -> new WordTrie().findByRank(0));
        due(18, "the last of 20", "1 t", () -> {
            WordTrie full = full();
            return found(full, () -> full.findByRank(19));
        });
    }

    private static void findByCount() {
        WordTrie x = with("d", "c", "b", "a", "c", "d", "bb", "bb", "bb");
        String[] sorted = {"2 bb", "1 c", "1 d", "1 a", "1 b"};
        for (int index = 0; index < sorted.length; index++) {
            int rank = index;
            due(19, "findByCount " + rank, sorted[rank], () -> found(x, () -> x.findByCount(rank)));
        }
        int[] wrongs = {-1, 5, 20, Integer.MIN_VALUE, Integer.MAX_VALUE};
        for (int rank : wrongs) {
            due(19, "findByCount " + rank, NO_ELEMENT + " b", () -> found(x, () -> x.findByCount(rank)));
            throwsUnchanged(19, "findByCount " + rank, NO_ELEMENT, "do", y -> y.findByCount(rank));
        }
        due(19, "in an empty dictionary", NO_ELEMENT, () -> new WordTrie().findByCount(0));
        due(19, "the last of 20", "1 t", () -> {
            WordTrie full = full();
            return found(full, () -> full.findByCount(19));
        });
        due(19, "the first of 20", "1 s", () -> {
            WordTrie full = full();
            typed(full, "s").insert();
            return found(full, () -> full.findByCount(0));
        });
        due(19, "a frequent word that is gone does not count", "1 a", () -> {
            WordTrie y = with("a", "b", "b", "c", "c");
            y.findByCount(0);
            typed(y, "c").erase();
            return found(y, () -> y.findByCount(1));
        });
    }

    private static void neighbours() {
        WordTrie x = with("b", "ba", "bab", "d");
        Object[][] rows = {
            {"", "1 b", NO_ELEMENT}, {"a", "1 b", NO_ELEMENT}, {"b", "2 ba", NO_ELEMENT},
            {"ba", "3 bab", "1 b"}, {"baa", "3 bab", "2 ba"}, {"bab", "1 d", "2 ba"},
            {"baba", "1 d", "3 bab"}, {"d", NO_ELEMENT, "3 bab"}, {"da", NO_ELEMENT, "1 d"},
            {"zzzzzzzzzz", NO_ELEMENT, "1 d"},
        };
        for (Object[] row : rows) {
            String word = (String) row[0];
            String next = (String) row[1];
            String previous = (String) row[2];
            x.findByRank(1);
            due(20, "findNext of " + word, next.equals(NO_ELEMENT) ? next + " ba" : next,
                    () -> found(typed(x, word), x::findNext));
            x.findByRank(1);
            due(21, "findPrevious of " + word, previous.equals(NO_ELEMENT) ? previous + " ba" : previous,
                    () -> found(typed(x, word), x::findPrevious));
        }
        throwsUnchanged(20, "findNext with a question mark", BAD_ARGUMENT, "a?", WordTrie::findNext);
        throwsUnchanged(20, "findNext of the last", NO_ELEMENT, "do", WordTrie::findNext);
        throwsUnchanged(21, "findPrevious with a question mark", BAD_ARGUMENT, "d?", WordTrie::findPrevious);
        throwsUnchanged(21, "findPrevious of the first", NO_ELEMENT, "car", WordTrie::findPrevious);
        due(20, "findNext with a question mark in an empty dictionary", BAD_ARGUMENT,
                () -> typed(new WordTrie(), "?").findNext());
        due(21, "findPrevious with a question mark in an empty one", BAD_ARGUMENT,
                () -> typed(new WordTrie(), "?").findPrevious());
        due(20, "findNext in an empty dictionary", NO_ELEMENT, () -> typed(new WordTrie(), "a").findNext());
        due(21, "findPrevious in an empty one", NO_ELEMENT, () -> typed(new WordTrie(), "a").findPrevious());
    }

    private static void complete() {
        WordTrie x = with("car", "cart", "cart", "cat", "cat", "dog", "dog", "dog", "do");
        due(22, "of the empty word", "3 dog", () -> found(typed(x, ""), x::complete));
        due(22, "the first of two", "4 cart", () -> found(typed(x, "ca"), x::complete));
        due(22, "a longer word is more frequent", "4 cart", () -> found(typed(x, "car"), x::complete));
        due(22, "the word itself", "3 cat", () -> found(typed(x, "cat"), x::complete));
        due(22, "the longer one", "3 dog", () -> found(typed(x, "do"), x::complete));
        due(22, "no such word", NO_ELEMENT + " dog", () -> found(typed(x, "x"), x::complete));
        due(22, "a question mark", NO_ELEMENT, () -> typed(x, "?").complete());
        due(22, "the word itself among equal ones", "1 a", () -> {
            WordTrie y = with("ab", "a");
            return found(typed(y, "a"), y::complete);
        });
        due(22, "a more frequent word right after those with the prefix", "2 ab", () -> {
            WordTrie y = with("ab", "b", "b");
            return found(typed(y, "a"), y::complete);
        });
        due(22, "a more frequent word right before those with the prefix", "1 b", () -> {
            WordTrie y = with("a", "a", "b");
            return found(typed(y, "b"), y::complete);
        });
        due(22, "an empty dictionary", NO_ELEMENT, () -> new WordTrie().complete());
        throwsUnchanged(22, "complete of a longer word", NO_ELEMENT, "cats", WordTrie::complete);
    }

    private static void matches() {
        WordTrie x = with("bee", "bed", "be", "ace", "z", "abcdefghij", "bed");
        Object[][] rows = {
            {"b?e", 1, "3 bee"}, {"be?", 2, "3 bed"}, {"???", 3, "3 ace"}, {"??e", 2, "3 ace"},
            {"?", 1, "1 z"}, {"??", 1, "2 be"}, {"????", 0, null}, {"bee", 1, "3 bee"},
            {"bea", 0, null}, {"", 0, null}, {"??????????", 1, "10 abcdefghij"},
            {"?????????j", 1, "10 abcdefghij"}, {"?????????k", 0, null}, {"e?", 0, null},
        };
        for (Object[] row : rows) {
            String pattern = (String) row[0];
            due(23, "countMatches of " + pattern, row[1], () -> typed(x, pattern).countMatches());
            String want = row[2] == null ? NO_ELEMENT + " be" : (String) row[2];
            x.findByRank(2);
            due(24, "findMatch of " + pattern, want, () -> found(typed(x, pattern), x::findMatch));
        }
        due(23, "countMatches of 20", 20, () -> typed(full(), "?").countMatches());
        due(23, "countMatches in an empty dictionary", 0, () -> typed(new WordTrie(), "?").countMatches());
        due(24, "findMatch in an empty dictionary", NO_ELEMENT, () -> typed(new WordTrie(), "?").findMatch());
        throwsUnchanged(24, "findMatch of no match", NO_ELEMENT, "????", WordTrie::findMatch);
    }

    private static void within() {
        WordTrie x = with("kitten", "sitting", "mitten", "kit", "a", "bcdefghijk", "kitten");
        Object[][] rows = {
            {"kitten", 0, 1}, {"kitten", 1, 2}, {"kitten", 2, 2}, {"kitten", 3, 4}, {"kitten", 5, 4},
            {"kitten", 6, 5}, {"kitten", 9, 5}, {"", 0, 0}, {"", 1, 1}, {"", 3, 2}, {"", 7, 5},
            {"", 9, 5}, {"k?t", 0, 0}, {"k?t", 1, 1}, {"?", 0, 0}, {"?", 1, 1}, {"it", 1, 1},
            {"abcdefghij", 2, 1}, {"abcdefghij", 1, 0}, {"zzzzzzzzzz", 9, 0}, {"akit", 1, 1},
        };
        for (Object[] row : rows) {
            String word = (String) row[0];
            int limit = (Integer) row[1];
            due(25, "wordsWithin " + limit + " of " + word, row[2], () -> typed(x, word).wordsWithin(limit));
            due(26, "wordsWithinByTrie " + limit + " of " + word, row[2],
                    () -> typed(x, word).wordsWithinByTrie(limit));
        }
        int[] wrongs = {-1, 10, Integer.MIN_VALUE, Integer.MAX_VALUE};
        for (int limit : wrongs) {
            throwsUnchanged(25, "wordsWithin " + limit, BAD_ARGUMENT, "do", y -> y.wordsWithin(limit));
            throwsUnchanged(26, "wordsWithinByTrie " + limit, BAD_ARGUMENT, "do", y -> y.wordsWithinByTrie(limit));
        }
        due(25, "wordsWithin in an empty dictionary", 0, () -> new WordTrie().wordsWithin(9));
        due(26, "wordsWithinByTrie in an empty dictionary", 0, () -> new WordTrie().wordsWithinByTrie(9));
        due(25, "wordsWithin of 20", 20, () -> typed(full(), "zz").wordsWithin(2));
        due(26, "wordsWithinByTrie of 20", 20, () -> typed(full(), "zz").wordsWithinByTrie(2));
    }

    private static void findNearest() {
        WordTrie x = with("cat", "bat", "bat", "rat", "rat", "horse", "cart");
        due(27, "the word itself", "0 cat", () -> found(typed(x, "cat"), x::findNearest));
        due(27, "the most frequent, then the first", "1 bat", () -> found(typed(x, "hat"), x::findNearest));
        due(27, "the most frequent though not the first", "1 rat", () -> {
            WordTrie y = with("bat", "cat", "rat", "rat");
            return found(typed(y, "hat"), y::findNearest);
        });
        due(27, "nearer wins over more frequent", "1 cart", () -> found(typed(x, "carts"), x::findNearest));
        due(27, "of the empty word", "3 bat", () -> found(typed(x, ""), x::findNearest));
        due(27, "a question mark is a character", "1 bat", () -> found(typed(x, "?at"), x::findNearest));
        due(27, "far away", "10 aaaaaaaaaa", () -> {
            WordTrie y = with("aaaaaaaaaa");
            return found(typed(y, "bbbbbbbbbb"), y::findNearest);
        });
        due(27, "an empty dictionary", NO_ELEMENT, () -> typed(new WordTrie(), "a").findNearest());
        WordTrie cleared = with("cat");
        cleared.findByRank(0);
        cleared.clear();
        due(27, "nothing is stored then", NO_ELEMENT + " cat", () -> found(cleared, cleared::findNearest));
    }

    private static void distanceToResult() {
        WordTrie x = with("sitting", "abcdefghij");
        due(28, "two empty words", 0, () -> new WordTrie().distanceToResult());
        due(28, "an empty result", 4, () -> typed(x, "a?cd").distanceToResult());
        x.findByRank(1);
        Object[][] rows = {
            {"sitting", 0}, {"kitten", 3}, {"", 7}, {"sitin", 2}, {"??????????", 10}, {"s?tting", 1},
            {"ssitting", 1}, {"gnittis", 4},
        };
        for (Object[] row : rows) {
            String word = (String) row[0];
            due(28, "sitting and " + word, row[1], () -> typed(x, word).distanceToResult());
        }
        x.findByRank(0);
        due(28, "ten letters, one shifted", 2, () -> typed(x, "bcdefghijk").distanceToResult());
        due(28, "ten letters, all other", 10, () -> typed(x, "zzzzzzzzzz").distanceToResult());
        x.clear();
        due(28, "the result stays after clear", 10, () -> typed(x, "").distanceToResult());
    }

    // ---- promises 29 to 38: queries about the dictionary

    private static void dictionary() {
        WordTrie x = with("car", "cart", "cart", "dog", "abcdefghij");
        due(29, "wordCount", 4, x::wordCount);
        due(30, "occurrences", 5, x::occurrences);
        due(31, "nodeCount", 17, x::nodeCount);
        due(32, "nodeCountByNeighbours", 17, x::nodeCountByNeighbours);
        due(33, "height", 10, x::height);
        typed(x, "abcdefghij").remove();
        due(29, "wordCount after remove", 3, x::wordCount);
        due(30, "occurrences after remove", 4, x::occurrences);
        due(31, "nodeCount after remove", 7, x::nodeCount);
        due(32, "nodeCountByNeighbours after remove", 7, x::nodeCountByNeighbours);
        due(33, "height after remove", 4, x::height);
        typed(x, "cart").remove();
        due(29, "wordCount after one of two", 3, x::wordCount);
        due(30, "occurrences after one of two", 3, x::occurrences);
        due(29, "wordCount of 20", 20, () -> full().wordCount());
        due(30, "occurrences of 99", 99, () -> often("a").occurrences());
        due(31, "nodeCount of 20", 20, () -> full().nodeCount());
        due(32, "nodeCountByNeighbours of 20", 20, () -> full().nodeCountByNeighbours());
        WordTrie large = new WordTrie();
        for (char letter = 'a'; letter < 'a' + 20; letter++) {
            typed(large, letter + "bcdefghij").insert();
        }
        due(31, "nodeCount of 200", 200, large::nodeCount);
        due(32, "nodeCountByNeighbours of 200", 200, large::nodeCountByNeighbours);
        WordTrie none = new WordTrie();
        due(31, "nodeCount of none", 0, none::nodeCount);
        due(32, "nodeCountByNeighbours of none", 0, none::nodeCountByNeighbours);
        due(33, "height of none", 0, none::height);
    }

    private static void insertionsAndRemovals() {
        WordTrie x = with("a", "a", "a", "b");
        due(34, "insertions", 4, x::insertions);
        due(35, "no removals", 0, x::removals);
        answer(x::insert);
        answer(typed(x, "?")::insert);
        due(34, "a failed insert does not count", 4, x::insertions);
        typed(x, "a").remove();
        due(35, "a removal", 1, x::removals);
        typed(x, "a").erase();
        due(35, "an erased count", 3, x::removals);
        answer(typed(x, "a")::remove);
        answer(typed(x, "a")::erase);
        due(35, "failed ones do not count", 3, x::removals);
        programmed(x, "add b;add b;remove b;add c;add c;erase c").run();
        due(34, "add commands", 8, x::insertions);
        due(35, "remove and erase commands", 6, x::removals);
        answer(programmed(x, "add b;remove b;remove x")::run);
        due(34, "a failed program adds nothing", 8, x::insertions);
        due(35, "and removes nothing", 6, x::removals);
        x.clear();
        due(35, "clear", 8, x::removals);
        due(34, "clear leaves the insertions", 8, x::insertions);
        x.undo();
        x.undo();
        due(34, "undo of a program", 4, x::insertions);
        due(35, "undo takes removals back", 3, x::removals);
    }

    private static void shares() {
        WordTrie x = with("a", "abc", "abc", "abcd");
        due(36, "meanLength", 8.0 / 3.0, x::meanLength);
        due(36, "meanLength of one", 10.0, () -> with("abcdefghij").meanLength());
        due(36, "meanLength of two", 1.5, () -> with("a", "ab", "ab").meanLength());
        throwsOfEmpty(36, WordTrie::meanLength);
        due(37, "all", 1.0f, () -> typed(x, "a").prefixShare());
        due(37, "the empty prefix", 1.0f, () -> typed(x, "").prefixShare());
        due(37, "three of four", 0.75f, () -> typed(x, "ab").prefixShare());
        due(37, "one of four", 0.25f, () -> typed(x, "abcd").prefixShare());
        due(37, "none", 0.0f, () -> typed(x, "b").prefixShare());
        due(37, "a question mark", 0.0f, () -> typed(x, "?").prefixShare());
        due(37, "a third", 1.0f / 3.0f, () -> typed(with("a", "b", "c"), "a").prefixShare());
        throwsOfEmpty(37, WordTrie::prefixShare);
    }

    private static void throwsOfEmpty(int promise, Step step) {
        due(promise, "an empty dictionary", ARITHMETIC, () -> step.make(new WordTrie()));
        WordTrie called = busy("ca");
        WordTrie spared = busy("ca");
        called.clear();
        spared.clear();
        due(promise, "a cleared dictionary", ARITHMETIC, () -> step.make(called));
        String after = everything(called);
        due(promise, "nothing changes then", everything(spared), () -> after);
    }

    private static void isConsistent() {
        due(38, "a new object", true, () -> new WordTrie().isConsistent());
        WordTrie x = with("b", "a", "ab", "ab", "abc", "ba");
        due(38, "after inserts", true, x::isConsistent);
        typed(x, "ab").erase();
        due(38, "after erase", true, x::isConsistent);
        x.save();
        programmed(x, "add zz;erase abc;add q;remove q").run();
        due(38, "after run", true, x::isConsistent);
        x.undo();
        due(38, "after undo", true, x::isConsistent);
        x.clear();
        due(38, "after clear", true, x::isConsistent);
        x.restore();
        due(38, "after restore", true, x::isConsistent);
        due(38, "20 words", true, () -> full().isConsistent());
        due(38, "the result stays", "2 ab", () -> {
            WordTrie y = with("ab", "b");
            y.findByRank(0);
            y.isConsistent();
            return "2 " + result(y);
        });
    }

    // ---- promises 39 to 42: programs

    private static void append() {
        WordTrie x = new WordTrie();
        due(39, "append of a letter", 1, () -> x.append('a'));
        due(39, "append of a zero", 2, () -> x.append((char) 0));
        due(39, "append of a far character", 3, () -> x.append('\uffff'));
        due(39, "append of a sign", 4, () -> x.append('!'));
        for (int length = 5; length <= 60; length++) {
            due(39, "append up to " + length, length, () -> x.append('a'));
        }
        due(39, "a 61st character", BAD_STATE, () -> x.append('a'));
        due(39, "and again", BAD_STATE, () -> x.append(';'));
        due(39, "the program is as it was", BAD_ARGUMENT, x::run);
        due(39, "its error", 1, x::errorPosition);
        due(39, "the buffer is empty after run", 1, () -> x.append('a'));
        WordTrie y = programmed(new WordTrie(), "add a;add a;add a;add a;add a;add a;add a;add a;add a;add ab");
        due(39, "a 61st after a program", BAD_STATE, () -> y.append('c'));
        due(39, "the program stays", 10, y::run);
        due(39, "its words", "a=9 ab=1 10/0", () -> words(y));
    }

    private static void run() {
        WordTrie x = typed(new WordTrie(), "xy?");
        due(40, "one command", 1, () -> programmed(x, "add cat").run());
        due(40, "the word buffer stays", "0 0 3 " + BAD_ARGUMENT + " 3", () -> bufferOf(x));
        due(40, "the program buffer is empty", 1, () -> x.append('a'));
        due(40, "three commands", 3, () -> programmed(x, "dd dog;add cat;remove dog").run());
        due(40, "in their order", "cat=2 3/1", () -> words(x));
        due(40, "erase", 2, () -> programmed(x, "erase cat;add abcdefghij").run());
        due(40, "its words", "abcdefghij=1 4/3", () -> words(x));
        due(40, "each run is one call", 2, x::undo);
        due(40, "of all its commands", "cat=2 3/1", () -> words(x));
        due(40, "no command fails for the words that others bring", 4,
                () -> programmed(x, "add q;remove q;add q;erase q").run());
        due(40, "a word of 11 letters", UNSUPPORTED, () -> programmed(x, "add a;add abcdefghijk").run());
        due(40, "none has an effect", "cat=2 5/3", () -> words(x));
        due(40, "the failed command", 1, x::failedCommand);
        due(40, "a long word that begins as one", UNSUPPORTED,
                () -> programmed(with("abcdefghij"), "erase abcdefghijj").run());
        due(40, "remove of no word", UNSUPPORTED, () -> programmed(x, "remove cats").run());
        due(40, "erase of no word", UNSUPPORTED, () -> programmed(x, "erase ca").run());
        due(40, "remove once too often", UNSUPPORTED,
                () -> programmed(x, "remove cat;remove cat;remove cat").run());
        due(40, "the third fails", 2, x::failedCommand);
        due(40, "the program buffer is empty then", 1, () -> x.append('a'));
        due(40, "a 21st word", UNSUPPORTED, () -> programmed(full(), "add u").run());
        due(40, "a 21st word after one went", 2, () -> programmed(full(), "remove a;add u").run());
        due(40, "a 100th", UNSUPPORTED, () -> programmed(often("a"), "add a").run());
        due(40, "a 100th after one went", 2, () -> programmed(often("a"), "remove a;add a").run());
        due(40, "a text that is none comes before one that fails", BAD_ARGUMENT,
                () -> programmed(new WordTrie(), "remove a;add").run());
    }

    private static void runThatThrows() {
        String[][] rows = {{"remove cow", UNSUPPORTED}, {"!", BAD_ARGUMENT}};
        for (String[] row : rows) {
            WordTrie x = with("cat", "dog");
            x.save();
            x.findByRank(1);
            typed(x, "cat").remove();
            typed(programmed(x, row[0]), "do");
            due(40, "run of " + row[0], row[1], x::run);
            due(40, "the result after " + row[0], "dog", () -> result(x));
            due(40, "the buffer after " + row[0], 2, x::longestPrefix);
            due(40, "the program buffer after " + row[0], 0, () -> programLength(x));
            due(40, "the words after " + row[0], "dog=1 2/1", () -> words(x));
            due(40, "undo after " + row[0], 2, x::undo);
        }
    }

    private static void errorPosition() {
        due(41, "none stored", NO_ELEMENT, () -> new WordTrie().errorPosition());
        Object[][] rows = {
            {"", 0}, {"x", 0}, {" add a", 0}, {"A", 0}, {";", 0}, {"a", 1}, {"ad", 2}, {"add", 3},
            {"add ", 4}, {"ax", 1}, {"adds a", 3}, {"add  a", 4}, {"add ;", 4}, {"add a b", 5},
            {"add a;", 6}, {"add a;;", 6}, {"add a; add b", 6}, {"add a?", 5}, {"add A", 4},
            {"add a;r", 7}, {"add a;remove", 12}, {"add a;remove ", 13}, {"add a;removee", 12},
            {"remove", 6}, {"remov a", 5}, {"erase", 5}, {"erase ", 6}, {"eraser a", 5}, {"e", 1},
            {"r", 1}, {"er", 2}, {"ra", 1}, {"ea", 1}, {"insert a", 0}, {"add a;clear", 6},
            {"add a{", 5}, {"add `", 4}, {"add a\0", 5}, {"\0", 0}, {"add\0", 3}, {"add \u0161", 4},
            {"add abcdefghijklmno;", 20}, {"add abcdefghijklmno!", 19}, {"addd a", 3}, {"?", 0},
            {"add a;add a;add a;add a;add a;add a;add a;add a;add a;add a;", 60},
        };
        for (Object[] row : rows) {
            WordTrie x = programmed(new WordTrie(), (String) row[0]);
            due(41, "run of " + row[0], BAD_ARGUMENT, x::run);
            due(41, "the error position of " + row[0], row[1], x::errorPosition);
            due(41, "no failed command of " + row[0], NO_ELEMENT, x::failedCommand);
        }
        WordTrie x = programmed(new WordTrie(), "add");
        answer(x::run);
        programmed(x, "add a").run();
        due(41, "it stays after a program", 3, x::errorPosition);
        answer(programmed(x, "remove x")::run);
        due(41, "it stays after a failed command", 3, x::errorPosition);
        x.undo();
        due(41, "it stays after undo", 3, x::errorPosition);
        answer(x::run);
        due(41, "the last one counts", 0, x::errorPosition);
    }

    private static void failedCommand() {
        WordTrie x = new WordTrie();
        due(42, "none stored", NO_ELEMENT, x::failedCommand);
        programmed(x, "add a").run();
        due(42, "none stored by a program", NO_ELEMENT, x::failedCommand);
        answer(programmed(x, "add a;add b;erase c;erase d")::run);
        due(42, "the first that fails", 2, x::failedCommand);
        due(42, "no error position", NO_ELEMENT, x::errorPosition);
        answer(programmed(x, "add")::run);
        due(42, "it stays after an error", 2, x::failedCommand);
        programmed(x, "add a").run();
        due(42, "it stays after a program", 2, x::failedCommand);
        x.undo();
        due(42, "it stays after undo", 2, x::failedCommand);
        answer(programmed(x, "remove c")::run);
        due(42, "the last one counts", 0, x::failedCommand);
        answer(programmed(x, "add a;add a;add a;add a;add a;add a;add a;add a;erase k")::run);
        due(42, "the ninth", 8, x::failedCommand);
    }

    // ---- promises 43 to 46: result, undo and snapshot

    private static void resultAt() {
        WordTrie x = with("abcdefghij", "zz");
        due(43, "an empty result", NO_INDEX, () -> x.resultAt(0));
        x.findByRank(0);
        for (int index = 0; index < 10; index++) {
            int at = index;
            due(43, "resultAt " + at, (char) ('a' + at), () -> x.resultAt(at));
        }
        due(43, "resultAt 10", NO_INDEX, () -> x.resultAt(10));
        x.findByRank(1);
        due(43, "the last letter", 'z', () -> x.resultAt(1));
        due(43, "a shorter result", NO_INDEX, () -> x.resultAt(2));
        int[] wrongs = {-1, 3, 10, Integer.MIN_VALUE, Integer.MAX_VALUE};
        for (int index : wrongs) {
            throwsUnchanged(43, "resultAt " + index, NO_INDEX, "do", y -> y.resultAt(index));
        }
        x.undo();
        due(43, "undo leaves the result", "zz", () -> result(x));
    }

    private static void undo() {
        WordTrie x = new WordTrie();
        for (char letter = 'a'; letter < 'a' + 10; letter++) {
            typed(x, String.valueOf(letter)).insert();
        }
        due(44, "undo", 7, x::undo);
        due(44, "what undo brings back", 9, x::wordCount);
        due(44, "the word is gone", false, () -> typed(x, "j").contains());
        due(44, "the insertions", 9, x::insertions);
        for (int left = 6; left >= 0; left--) {
            due(44, "undo to " + left, left, x::undo);
        }
        due(44, "a ninth undo", BAD_STATE, x::undo);
        due(44, "the two oldest stay", "a=1 b=1 2/0", () -> words(x));
        typed(x, "c").insert();
        due(44, "a new call can be undone", 0, x::undo);
        WordTrie y = with("a", "b", "b");
        typed(y, "b").remove();
        typed(y, "b").erase();
        programmed(y, "add c;add d").run();
        y.clear();
        typed(y, "ab");
        due(44, "undo of clear", 6, y::undo);
        due(44, "undo leaves the buffer", 1, y::eraseLast);
        due(44, "after clear", "a=1 c=1 d=1 5/2", () -> words(y));
        due(44, "undo of run", 5, y::undo);
        due(44, "after run", "a=1 3/2", () -> words(y));
        due(44, "undo of erase", 4, y::undo);
        due(44, "after erase", "a=1 b=1 3/1", () -> words(y));
        due(44, "undo of remove", 3, y::undo);
        due(44, "after remove", "a=1 b=2 3/0", () -> words(y));
        WordTrie z = with("a");
        answer(typed(z, "q")::remove);
        answer(programmed(z, "remove q")::run);
        z.emptyBuffer();
        z.append('a');
        z.findByRank(0);
        z.save();
        due(44, "other calls are not undone", 0, z::undo);
        due(44, "no more", BAD_STATE, z::undo);
        due(44, "the result stays", "a", () -> result(z));
        throwsUnchangedUndo();
    }

    private static void throwsUnchangedUndo() {
        WordTrie called = busy("ca");
        WordTrie spared = busy("ca");
        called.restore();
        spared.restore();
        due(44, "undo after restore", BAD_STATE, called::undo);
        String after = everything(called);
        due(44, "undo that throws changes nothing", everything(spared), () -> after);
    }

    private static void save() {
        WordTrie x = with("a", "b");
        x.save();
        due(45, "save is not undone", 1, x::undo);
        typed(x, "c").insert();
        due(45, "save keeps the words of its time", "a=1 b=1 2/0", () -> {
            x.restore();
            return words(x);
        });
        typed(x, "d").insert();
        x.save();
        x.clear();
        x.restore();
        due(45, "a second save replaces the first", "a=1 b=1 d=1 3/0", () -> words(x));
        WordTrie y = typed(with("a"), "xy");
        y.findByRank(0);
        y.save();
        due(45, "save leaves the buffer", 1, y::eraseLast);
        due(45, "save leaves the result", "a", () -> result(y));
        due(45, "save of an empty dictionary", "0/0", () -> {
            WordTrie z = new WordTrie();
            z.save();
            typed(z, "a").insert();
            z.restore();
            return words(z);
        });
    }

    private static void restore() {
        due(46, "nothing saved", BAD_STATE, () -> outcome(() -> new WordTrie().restore()));
        WordTrie x = with("a", "a", "b");
        due(46, "nothing saved with words", BAD_STATE, () -> outcome(x::restore));
        due(46, "the calls can still be undone", 2, x::undo);
        x.save();
        typed(x, "a").erase();
        programmed(x, "add q").run();
        typed(x, "zz");
        programmed(x, "add");
        due(46, "restore", "", () -> outcome(x::restore));
        due(46, "no call can be undone", BAD_STATE, x::undo);
        due(46, "the buffer stays", 1, x::eraseLast);
        due(46, "the program buffer stays", 3, () -> programLength(x));
        due(46, "the words", "a=2 2/0", () -> words(x));
        x.clear();
        due(46, "a call after it can be undone", 0, x::undo);
        x.clear();
        x.clear();
        x.restore();
        due(46, "the state stays saved", "a=2 2/0", () -> words(x));
        due(46, "and again no call can be undone", BAD_STATE, x::undo);
        x.clear();
        x.undo();
        x.restore();
        due(46, "undo leaves what is saved", "a=2 2/0", () -> words(x));
    }

    /** Queries leave the buffer, the words and what can be undone as they are. */
    private static void queriesChangeNothing() {
        Step[] queries = {
            WordTrie::contains, WordTrie::count, WordTrie::wordsWithPrefix,
            WordTrie::occurrencesWithPrefix, WordTrie::continuations, WordTrie::longestPrefix,
            x -> answer(x::shortestUniquePrefix), WordTrie::rank, WordTrie::rankByComparing,
            WordTrie::countMatches, x -> x.wordsWithin(3), x -> x.wordsWithinByTrie(3),
            WordTrie::distanceToResult, WordTrie::wordCount, WordTrie::occurrences,
            WordTrie::nodeCount, WordTrie::nodeCountByNeighbours, WordTrie::height,
            WordTrie::insertions, WordTrie::removals, WordTrie::meanLength, WordTrie::prefixShare,
            WordTrie::isConsistent, WordTrie::errorPosition, WordTrie::failedCommand,
            x -> x.resultAt(0),
        };
        int[] promises = {9, 10, 11, 12, 13, 14, 15, 16, 17, 23, 25, 26, 28, 29, 30, 31, 32, 33, 34,
            35, 36, 37, 38, 41, 42, 43};
        for (int index = 0; index < queries.length; index++) {
            WordTrie called = busy("cat");
            queries[index].make(called);
            String after = everything(called);
            due(promises[index], "the query changes nothing", everything(busy("cat")), () -> after);
        }
        Step[] finders = {
            x -> x.findByRank(0), x -> x.findByCount(0), WordTrie::findNext, WordTrie::findPrevious,
            WordTrie::complete, WordTrie::findMatch, WordTrie::findNearest,
        };
        int[] finderPromises = {18, 19, 20, 21, 22, 24, 27};
        for (int index = 0; index < finders.length; index++) {
            WordTrie called = busy("cat");
            finders[index].make(called);
            called.findByRank(1);
            String after = everything(called);
            due(finderPromises[index], "only the result changes", everything(busy("cat")), () -> after);
        }
    }

    public static void main(String[] args) {
        newObject();
        type();
        eraseLast();
        emptyBuffer();
        insert();
        remove();
        erase();
        clear();
        contains();
        count();
        prefixes();
        shortestUniquePrefix();
        ranks();
        findByRank();
        findByCount();
        neighbours();
        complete();
        matches();
        within();
        findNearest();
        distanceToResult();
        dictionary();
        insertionsAndRemovals();
        shares();
        isConsistent();
        append();
        run();
        runThatThrows();
        errorPosition();
        failedCommand();
        resultAt();
        undo();
        save();
        restore();
        queriesChangeNothing();
        System.out.println(wrong == 0 ? checks + " answers are as due"
                : wrong + " of " + checks + " answers are not as due");
        System.exit(wrong == 0 ? 0 : 1);
    }
}
