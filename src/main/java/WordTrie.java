import java.util.NoSuchElementException;

/**
 * A dictionary of words with counts, stored in a trie, with prefix queries, alphabetical and
 * frequency order, wildcard patterns, and fuzzy lookup by edit distance.
 */
public final class WordTrie {
    private static final int MAX_WORD_LENGTH = 10;
    private static final int MAX_WORDS = 20;
    private static final int MAX_COUNT = 99;
    private static final int MAX_LIMIT = 9;
    private static final int MAX_PROGRAM_LENGTH = 60;
    private static final int MAX_UNDOS = 8;
    private static final int NONE = -1;
    private static final char QUESTION_MARK = '?';
    private static final String ADD = "add ";
    private static final String REMOVE = "remove ";
    private static final String ERASE = "erase ";

    private final Text buffer;
    private final Text result;
    private final Program program;
    private final History history;
    // These four are made once and used again by every query, so that a query makes no objects.
    private final Text found;
    private final Text previous;
    private final int[] countsByRank;
    private final DistanceTable table;
    private State state;
    private State saved;
    private int storedErrorPosition;
    private int storedFailedCommand;

    public WordTrie() {
        buffer = new Text(MAX_WORD_LENGTH);
        result = new Text(MAX_WORD_LENGTH);
        program = new Program();
        history = new History();
        found = new Text(MAX_WORD_LENGTH);
        previous = new Text(MAX_WORD_LENGTH);
        countsByRank = new int[MAX_WORDS];
        table = new DistanceTable();
        state = new State(Node.emptyRoot(), 0L, 0L);
        saved = null;
        storedErrorPosition = NONE;
        storedFailedCommand = NONE;
    }

    // ---- word buffer

    public int type(char character) throws IllegalArgumentException, IllegalStateException {
        if (!isLetter(character) && character != QUESTION_MARK) {
            throw new IllegalArgumentException("neither a letter from a to z nor a question mark");
        }
        if (!buffer.add(character)) {
            throw new IllegalStateException("the word buffer is full");
        }
        return buffer.length();
    }

    public int eraseLast() throws IllegalStateException {
        if (buffer.length() == 0) {
            throw new IllegalStateException("the word buffer is empty");
        }
        buffer.dropLast();
        return buffer.length();
    }

    public void emptyBuffer() {
        buffer.makeEmpty();
    }

    // ---- changes

    public int insert() throws IllegalArgumentException, IllegalStateException {
        requireWord();
        State next = state.withOneMore(buffer);
        if (next == null) {
            throw new IllegalStateException("the count or the dictionary is full");
        }
        int countAfter = next.root.timesOf(buffer);
        change(next);
        buffer.makeEmpty();
        return countAfter;
    }

    public int remove() throws IllegalArgumentException, NoSuchElementException {
        requireWord();
        State next = state.withOneLess(buffer);
        if (next == null) {
            throw new NoSuchElementException("the word is not contained");
        }
        int countAfter = next.root.timesOf(buffer);
        change(next);
        buffer.makeEmpty();
        return countAfter;
    }

    public int erase() throws IllegalArgumentException, NoSuchElementException {
        requireWord();
        int countBefore = state.root.timesOf(buffer);
        State next = state.without(buffer);
        if (next == null) {
            throw new NoSuchElementException("the word is not contained");
        }
        change(next);
        buffer.makeEmpty();
        return countBefore;
    }

    public int clear() {
        int words = state.root.words;
        change(state.withoutWords());
        return words;
    }

    // ---- queries about the buffer word

    public boolean contains() {
        return state.root.timesOf(buffer) > 0;
    }

    public int count() {
        return state.root.timesOf(buffer);
    }

    public int wordsWithPrefix() {
        Node node = state.root.nodeFor(buffer);
        return node == null ? 0 : node.words;
    }

    public int occurrencesWithPrefix() {
        Node node = state.root.nodeFor(buffer);
        return node == null ? 0 : node.occurrences;
    }

    public int continuations() {
        Node node = state.root.nodeFor(buffer);
        return node == null ? 0 : node.numberOfChildren();
    }

    public int longestPrefix() {
        return state.root.depthReached(buffer);
    }

    public int shortestUniquePrefix() throws NoSuchElementException {
        Node node = state.root.nodeFor(buffer);
        if (node == null || node.times == 0 || node.words != 1) {
            throw new NoSuchElementException("no prefix tells the word from all others");
        }
        return state.root.depthOfSingleWord(buffer);
    }

    public int rank() throws IllegalArgumentException {
        requireNoQuestionMark();
        return state.root.wordsBefore(buffer);
    }

    public int rankByComparing() throws IllegalArgumentException {
        requireNoQuestionMark();
        int before = 0;
        for (int rank = 0; rank < state.root.words; rank++) {
            state.root.findWordAt(rank, found);
            if (found.compareWith(buffer) < 0) {
                before++;
            }
        }
        return before;
    }

    // ---- finding words

    public int findByRank(int rank) throws NoSuchElementException {
        return storeWordAt(rank);
    }

    public int findByCount(int rank) throws NoSuchElementException {
        return storeWordAt(rankOfFrequencyRank(rank));
    }

    public int findNext() throws IllegalArgumentException, NoSuchElementException {
        requireNoQuestionMark();
        int itself = state.root.timesOf(buffer) > 0 ? 1 : 0;
        return storeWordAt(state.root.wordsBefore(buffer) + itself);
    }

    public int findPrevious() throws IllegalArgumentException, NoSuchElementException {
        requireNoQuestionMark();
        return storeWordAt(state.root.wordsBefore(buffer) - 1);
    }

    public int complete() throws NoSuchElementException {
        return storeWordAt(rankOfCompletion());
    }

    public int countMatches() {
        int matches = 0;
        for (int rank = 0; rank < state.root.words; rank++) {
            state.root.findWordAt(rank, found);
            if (found.matches(buffer)) {
                matches++;
            }
        }
        return matches;
    }

    public int findMatch() throws NoSuchElementException {
        return storeWordAt(rankOfFirstMatch());
    }

    public int wordsWithin(int limit) throws IllegalArgumentException {
        requireLimit(limit);
        int within = 0;
        for (int rank = 0; rank < state.root.words; rank++) {
            state.root.findWordAt(rank, found);
            if (table.distance(found, buffer) <= limit) {
                within++;
            }
        }
        return within;
    }

    public int wordsWithinByTrie(int limit) throws IllegalArgumentException {
        requireLimit(limit);
        return wordsWithinBelow(state.root, 1, buffer, table, limit);
    }

    public int findNearest() throws NoSuchElementException {
        storeWordAt(rankOfNearest());
        return table.distance(result, buffer);
    }

    public int distanceToResult() {
        return table.distance(result, buffer);
    }

    // ---- queries about the dictionary

    public int wordCount() {
        return state.root.words;
    }

    public int occurrences() {
        return state.root.occurrences;
    }

    public int nodeCount() {
        return nodesBelow(state.root, 1);
    }

    public int nodeCountByNeighbours() {
        int nodes = 0;
        previous.makeEmpty();
        for (int rank = 0; rank < state.root.words; rank++) {
            state.root.findWordAt(rank, found);
            nodes += found.length() - found.sharedPrefix(previous);
            previous.copyFrom(found);
        }
        return nodes;
    }

    public int height() {
        int longest = 0;
        for (int rank = 0; rank < state.root.words; rank++) {
            state.root.findWordAt(rank, found);
            longest = Math.max(longest, found.length());
        }
        return longest;
    }

    public long insertions() {
        return state.insertions;
    }

    public long removals() {
        return state.removals;
    }

    public double meanLength() throws ArithmeticException {
        int words = state.root.words;
        if (words == 0) {
            throw new ArithmeticException("the dictionary is empty");
        }
        return (double) sumOfLengths() / (double) words;
    }

    public float prefixShare() throws ArithmeticException {
        int all = state.root.occurrences;
        if (all == 0) {
            throw new ArithmeticException("the dictionary is empty");
        }
        return (float) occurrencesWithPrefix() / (float) all;
    }

    public boolean isConsistent() {
        return nodeCount() == nodeCountByNeighbours()
                && state.root.occurrences == state.insertions - state.removals
                && isInOrder();
    }

    // ---- programs

    public int append(char character) throws IllegalStateException {
        if (!program.text.add(character)) {
            throw new IllegalStateException("the program buffer is full");
        }
        return program.text.length();
    }

    public int run() throws IllegalArgumentException, UnsupportedOperationException {
        int error = program.findError();
        if (error != NONE) {
            program.text.makeEmpty();
            storedErrorPosition = error;
            throw new IllegalArgumentException("the text is not a program");
        }
        int commands = program.countCommands();
        State reached = state;
        program.goToStart();
        for (int index = 0; index < commands; index++) {
            State next = program.readCommand() ? program.carryOutCommand(reached) : null;
            if (next == null) {
                program.text.makeEmpty();
                storedFailedCommand = index;
                throw new UnsupportedOperationException("a command fails");
            }
            reached = next;
            program.readSeparator();
        }
        program.text.makeEmpty();
        change(reached);
        return commands;
    }

    public int errorPosition() throws NoSuchElementException {
        if (storedErrorPosition == NONE) {
            throw new NoSuchElementException("no error position was stored");
        }
        return storedErrorPosition;
    }

    public int failedCommand() throws NoSuchElementException {
        if (storedFailedCommand == NONE) {
            throw new NoSuchElementException("no failed command was stored");
        }
        return storedFailedCommand;
    }

    // ---- result, undo and snapshot

    public char resultAt(int index) throws IndexOutOfBoundsException {
        if (index < 0 || index >= result.length()) {
            throw new IndexOutOfBoundsException("the result has no such index");
        }
        return result.at(index);
    }

    public int undo() throws IllegalStateException {
        State before = history.takeLast();
        if (before == null) {
            throw new IllegalStateException("no call can be undone");
        }
        state = before;
        return history.size();
    }

    public void save() {
        saved = state;
    }

    public void restore() throws IllegalStateException {
        if (saved == null) {
            throw new IllegalStateException("no state was saved");
        }
        state = saved;
        history.forgetAll();
    }

    // ---- what the calls share

    private static boolean isLetter(char character) {
        return character >= 'a' && character <= 'z';
    }

    private void requireWord() {
        if (buffer.length() == 0 || buffer.has(QUESTION_MARK)) {
            throw new IllegalArgumentException("the buffer word is empty or has a question mark");
        }
    }

    private void requireNoQuestionMark() {
        if (buffer.has(QUESTION_MARK)) {
            throw new IllegalArgumentException("the buffer word has a question mark");
        }
    }

    private static void requireLimit(int limit) {
        if (limit < 0 || limit > MAX_LIMIT) {
            throw new IllegalArgumentException("the limit is out of range");
        }
    }

    private void change(State next) {
        history.remember(state);
        state = next;
    }

    /** The word is found outside the result, which must stay as it is when there is none. */
    private int storeWordAt(int rank) {
        if (state.root.findWordAt(rank, found) == null) {
            throw new NoSuchElementException("there is no such word");
        }
        result.copyFrom(found);
        return result.length();
    }

    private int rankOfFrequencyRank(int frequencyRank) {
        listCounts();
        for (int rank = 0; rank < state.root.words && rank < countsByRank.length; rank++) {
            if (wordsMoreFrequent(rank, countsByRank[rank]) == frequencyRank) {
                return rank;
            }
        }
        return NONE;
    }

    private void listCounts() {
        for (int rank = 0; rank < state.root.words && rank < countsByRank.length; rank++) {
            Node node = state.root.findWordAt(rank, found);
            countsByRank[rank] = node == null ? 0 : node.times;
        }
    }

    /** The number of words before a word in frequency order, from its alphabetical rank and count. */
    private int wordsMoreFrequent(int rank, int count) {
        int before = 0;
        for (int other = 0; other < state.root.words && other < countsByRank.length; other++) {
            int otherCount = countsByRank[other];
            if (otherCount > count || (otherCount == count && other < rank)) {
                before++;
            }
        }
        return before;
    }

    /** The words with one prefix stand side by side in alphabetical order. */
    private int rankOfCompletion() {
        Node prefixNode = state.root.nodeFor(buffer);
        if (prefixNode == null) {
            return NONE;
        }
        int first = state.root.wordsBefore(buffer);
        int best = NONE;
        int bestCount = 0;
        for (int rank = first; rank < first + prefixNode.words; rank++) {
            Node node = state.root.findWordAt(rank, found);
            if (node != null && node.times > bestCount) {
                best = rank;
                bestCount = node.times;
            }
        }
        return best;
    }

    private int rankOfFirstMatch() {
        for (int rank = 0; rank < state.root.words; rank++) {
            state.root.findWordAt(rank, found);
            if (found.matches(buffer)) {
                return rank;
            }
        }
        return NONE;
    }

    private int rankOfNearest() {
        int best = NONE;
        int bestDistance = 0;
        int bestCount = 0;
        for (int rank = 0; rank < state.root.words; rank++) {
            Node node = state.root.findWordAt(rank, found);
            int count = node == null ? 0 : node.times;
            int distance = table.distance(found, buffer);
            if (best == NONE || distance < bestDistance
                    || (distance == bestDistance && count > bestCount)) {
                best = rank;
                bestDistance = distance;
                bestCount = count;
            }
        }
        return best;
    }

    private int sumOfLengths() {
        int sum = 0;
        for (int rank = 0; rank < state.root.words; rank++) {
            state.root.findWordAt(rank, found);
            sum += found.length();
        }
        return sum;
    }

    private boolean isInOrder() {
        previous.makeEmpty();
        for (int rank = 0; rank < state.root.words; rank++) {
            state.root.findWordAt(rank, found);
            if (rank > 0 && previous.compareWith(found) >= 0) {
                return false;
            }
            previous.copyFrom(found);
        }
        return true;
    }

    private static int nodesBelow(Node parent, int depth) {
        if (depth > MAX_WORD_LENGTH) {
            return 0;
        }
        int nodes = 0;
        for (Node child = parent.firstChild; child != null; child = child.nextSibling) {
            nodes += 1 + nodesBelow(child, depth + 1);
        }
        return nodes;
    }

    /** The rows above the depth belong to the way from the root to the parent. */
    private static int wordsWithinBelow(
            Node parent, int depth, Text target, DistanceTable table, int limit) {
        if (depth > MAX_WORD_LENGTH) {
            return 0;
        }
        int within = 0;
        for (Node child = parent.firstChild; child != null; child = child.nextSibling) {
            table.fillRow(depth, child.letter, target);
            if (child.times > 0 && table.distanceInRow(depth, target) <= limit) {
                within++;
            }
            within += wordsWithinBelow(child, depth + 1, target, table, limit);
        }
        return within;
    }

    /** Characters one after the other, up to a number that is set when the text is made. */
    private static final class Text {
        private final char[] characters;
        private int length;

        Text(int capacity) {
            characters = new char[Math.max(capacity, 0)];
            length = 0;
        }

        int length() {
            return length;
        }

        /** Beyond the text the character 0, which no word and no program has. */
        char at(int index) {
            if (index < 0 || index >= length || index >= characters.length) {
                return (char) 0;
            }
            return characters[index];
        }

        /** False, and nothing changes, if the text is full. */
        boolean add(char character) {
            if (length < 0 || length >= characters.length) {
                return false;
            }
            characters[length] = character;
            length++;
            return true;
        }

        void dropLast() {
            if (length > 0) {
                length--;
            }
        }

        void makeEmpty() {
            length = 0;
        }

        void copyFrom(Text other) {
            makeEmpty();
            for (int index = 0; index < other.length(); index++) {
                add(other.at(index));
            }
        }

        boolean has(char character) {
            for (int index = 0; index < length; index++) {
                if (at(index) == character) {
                    return true;
                }
            }
            return false;
        }

        int sharedPrefix(Text other) {
            int shorter = Math.min(length, other.length());
            for (int index = 0; index < shorter; index++) {
                if (at(index) != other.at(index)) {
                    return index;
                }
            }
            return shorter;
        }

        /** Negative, 0 or positive as this text comes before, is, or comes after the other. */
        int compareWith(Text other) {
            int shared = sharedPrefix(other);
            if (shared < length && shared < other.length()) {
                return at(shared) - other.at(shared);
            }
            return length - other.length();
        }

        boolean matches(Text pattern) {
            if (length != pattern.length()) {
                return false;
            }
            for (int index = 0; index < length; index++) {
                char wanted = pattern.at(index);
                if (wanted != QUESTION_MARK && wanted != at(index)) {
                    return false;
                }
            }
            return true;
        }
    }

    /**
     * A node of the trie, with its children as a chain in alphabetical order. A node never changes:
     * a change of a word makes new nodes along its way and shares all others, so that the states
     * that undo and restore go back to stay whole.
     */
    private static final class Node {
        // The way of one change: 10 letters, and at most 20 siblings before them, one for each word.
        private static final int MAX_LEVELS = 40;

        final char letter;
        final int times;
        final Node firstChild;
        final Node nextSibling;
        // Of the words that begin with the node's prefix:
        final int words;
        final int occurrences;

        Node(char letter, int times, Node firstChild, Node nextSibling) {
            int wordsHere = times > 0 ? 1 : 0;
            int occurrencesHere = times;
            for (Node child = firstChild; child != null; child = child.nextSibling) {
                wordsHere += child.words;
                occurrencesHere += child.occurrences;
            }
            this.letter = letter;
            this.times = times;
            this.firstChild = firstChild;
            this.nextSibling = nextSibling;
            this.words = wordsHere;
            this.occurrences = occurrencesHere;
        }

        static Node emptyRoot() {
            return new Node((char) 0, 0, null, null);
        }

        /** The root of the trie in which the word has the count; with the count 0 it is not there. */
        Node withTimes(Text word, int newTimes) {
            return new Node(letter, times, changedChain(firstChild, word, 0, newTimes, 0), nextSibling);
        }

        /** The chain from first on, changed for the letters of the word from index on. */
        private static Node changedChain(Node first, Text word, int index, int newTimes, int level) {
            if (level > MAX_LEVELS || index >= word.length()) {
                return first;
            }
            char letter = word.at(index);
            if (first != null && first.letter < letter) {
                Node rest = changedChain(first.nextSibling, word, index, newTimes, level + 1);
                return new Node(first.letter, first.times, first.firstChild, rest);
            }
            boolean isThere = first != null && first.letter == letter;
            Node rest = isThere ? first.nextSibling : first;
            Node below = isThere ? first.firstChild : null;
            int times = isThere ? first.times : 0;
            if (index + 1 == word.length()) {
                times = newTimes;
            } else {
                below = changedChain(below, word, index + 1, newTimes, level + 1);
            }
            return times == 0 && below == null ? rest : new Node(letter, times, below, rest);
        }

        private Node childFor(char wanted) {
            for (Node child = firstChild; child != null; child = child.nextSibling) {
                if (child.letter == wanted) {
                    return child;
                }
            }
            return null;
        }

        int numberOfChildren() {
            int children = 0;
            for (Node child = firstChild; child != null; child = child.nextSibling) {
                children++;
            }
            return children;
        }

        /** The node of the prefix, or null if no word begins with it. */
        Node nodeFor(Text prefix) {
            Node node = this;
            for (int index = 0; index < prefix.length() && node != null; index++) {
                node = node.childFor(prefix.at(index));
            }
            return node;
        }

        int timesOf(Text word) {
            Node node = nodeFor(word);
            return node == null ? 0 : node.times;
        }

        int depthReached(Text word) {
            Node node = this;
            for (int index = 0; index < word.length(); index++) {
                node = node.childFor(word.at(index));
                if (node == null) {
                    return index;
                }
            }
            return word.length();
        }

        /** How far to go down, at least one letter, until the word is the only one that is left. */
        int depthOfSingleWord(Text word) {
            Node node = this;
            for (int index = 0; index < word.length(); index++) {
                node = node.childFor(word.at(index));
                if (node == null || node.words == 1) {
                    return index + 1;
                }
            }
            return word.length();
        }

        int wordsBefore(Text word) {
            Node node = this;
            int before = 0;
            for (int index = 0; index < word.length(); index++) {
                char letterOfWord = word.at(index);
                before += node.times > 0 ? 1 : 0;
                Node child = node.firstChild;
                while (child != null && child.letter < letterOfWord) {
                    before += child.words;
                    child = child.nextSibling;
                }
                if (child == null || child.letter != letterOfWord) {
                    return before;
                }
                node = child;
            }
            return before;
        }

        /** Spells the word at the alphabetical rank; its node, or null if there is no such rank. */
        Node findWordAt(int rank, Text spelled) {
            spelled.makeEmpty();
            if (rank < 0 || rank >= words) {
                return null;
            }
            Node node = this;
            int skip = rank;
            for (int depth = 0; depth <= MAX_WORD_LENGTH; depth++) {
                if (node.times > 0 && skip == 0) {
                    return node;
                }
                skip -= node.times > 0 ? 1 : 0;
                Node child = node.firstChild;
                while (child != null && skip >= child.words) {
                    skip -= child.words;
                    child = child.nextSibling;
                }
                if (child == null) {
                    return null;
                }
                spelled.add(child.letter);
                node = child;
            }
            return null;
        }
    }

    /** What undo and restore bring back; it never changes. */
    private static final class State {
        final Node root;
        final long insertions;
        final long removals;

        State(Node root, long insertions, long removals) {
            this.root = root;
            this.insertions = insertions;
            this.removals = removals;
        }

        /** Null if there is no room for one more. */
        State withOneMore(Text word) {
            int times = root.timesOf(word);
            if (times >= MAX_COUNT || (times == 0 && root.words >= MAX_WORDS)) {
                return null;
            }
            return new State(root.withTimes(word, times + 1), insertions + 1, removals);
        }

        /** Null if the word is not contained. */
        State withOneLess(Text word) {
            int times = root.timesOf(word);
            if (times == 0) {
                return null;
            }
            return new State(root.withTimes(word, times - 1), insertions, removals + 1);
        }

        /** Null if the word is not contained. */
        State without(Text word) {
            int times = root.timesOf(word);
            if (times == 0) {
                return null;
            }
            return new State(root.withTimes(word, 0), insertions, removals + times);
        }

        State withoutWords() {
            return new State(Node.emptyRoot(), insertions, removals + root.occurrences);
        }
    }

    /** The states before the most recent changing calls, the oldest first. */
    private static final class History {
        private final State[] states;
        private int size;

        History() {
            states = new State[MAX_UNDOS];
            size = 0;
        }

        int size() {
            return size;
        }

        void remember(State state) {
            if (size >= states.length) {
                forgetOldest();
            }
            if (size >= 0 && size < states.length) {
                states[size] = state;
                size++;
            }
        }

        private void forgetOldest() {
            for (int index = 1; index < states.length; index++) {
                states[index - 1] = states[index];
            }
            size = states.length - 1;
        }

        /** Null if there is none. */
        State takeLast() {
            if (size <= 0 || size > states.length) {
                return null;
            }
            size--;
            return states[size];
        }

        void forgetAll() {
            size = 0;
        }
    }

    /** The program buffer, read from the left to the right. */
    private static final class Program {
        final Text text;
        private final Text word;
        private boolean wordFits;
        private String keyword;
        private int position;

        Program() {
            text = new Text(MAX_PROGRAM_LENGTH);
            word = new Text(MAX_WORD_LENGTH);
            wordFits = true;
            keyword = "";
            position = 0;
        }

        void goToStart() {
            position = 0;
        }

        /** The error position, or NONE if the text is a program. */
        int findError() {
            goToStart();
            for (int commands = 0; commands < MAX_PROGRAM_LENGTH; commands++) {
                if (!readCommand()) {
                    return position;
                }
                if (position >= text.length()) {
                    return NONE;
                }
                if (!readSeparator()) {
                    return position;
                }
            }
            return position;
        }

        /** Only a text that is a program has one command more than separators. */
        int countCommands() {
            int commands = 1;
            for (int index = 0; index < text.length(); index++) {
                commands += text.at(index) == ';' ? 1 : 0;
            }
            return commands;
        }

        /** False if there is no command, with the position where it can't go on. */
        boolean readCommand() {
            keyword = keywordFor(text.at(position));
            return readKeyword() && readWord();
        }

        boolean readSeparator() {
            if (text.at(position) != ';') {
                return false;
            }
            position++;
            return true;
        }

        private static String keywordFor(char first) {
            switch (first) {
                case 'a':
                    return ADD;
                case 'r':
                    return REMOVE;
                case 'e':
                    return ERASE;
                default:
                    return "";
            }
        }

        private boolean readKeyword() {
            for (int index = 0; index < keyword.length(); index++) {
                if (text.at(position) != keyword.charAt(index)) {
                    return false;
                }
                position++;
            }
            return !keyword.isEmpty();
        }

        private boolean readWord() {
            int start = position;
            word.makeEmpty();
            wordFits = true;
            while (position < text.length() && isLetter(text.at(position))) {
                wordFits = word.add(text.at(position)) && wordFits;
                position++;
            }
            return position > start;
        }

        /** The state after the command that was read last, or null if it fails. */
        State carryOutCommand(State before) {
            if (!wordFits) {
                return null;
            }
            if (keyword.equals(ADD)) {
                return before.withOneMore(word);
            }
            if (keyword.equals(REMOVE)) {
                return before.withOneLess(word);
            }
            return before.without(word);
        }
    }

    /** A row for each letter of one word, a column for each letter of the other. */
    private static final class DistanceTable {
        private final int[][] rows;

        DistanceTable() {
            rows = new int[MAX_WORD_LENGTH + 1][MAX_WORD_LENGTH + 1];
            // The first row and column are the same for all words, so they are filled once.
            for (int length = 0; length <= MAX_WORD_LENGTH; length++) {
                rows[0][length] = length;
                rows[length][0] = length;
            }
        }

        int distance(Text word, Text target) {
            for (int row = 1; row <= word.length(); row++) {
                fillRow(row, word.at(row - 1), target);
            }
            return distanceInRow(word.length(), target);
        }

        /** Goes on from the row above by one more letter. */
        void fillRow(int row, char letter, Text target) {
            if (row < 1 || row >= rows.length) {
                return;
            }
            int[] above = rows[row - 1];
            int[] filled = rows[row];
            int columns = Math.min(target.length() + 1, Math.min(above.length, filled.length));
            for (int column = 1; column < columns; column++) {
                int replaced = above[column - 1] + (letter == target.at(column - 1) ? 0 : 1);
                int shifted = Math.min(above[column], filled[column - 1]) + 1;
                filled[column] = Math.min(replaced, shifted);
            }
        }

        int distanceInRow(int row, Text target) {
            if (row < 0 || row >= rows.length || target.length() >= rows[row].length) {
                return MAX_LIMIT + 1;
            }
            return rows[row][target.length()];
        }
    }
}
