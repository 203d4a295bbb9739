import java.util.Set;
import java.util.TreeSet;

/**
 * The sentences of the document's sections "Promise 1" to "Promise 46", each at its boundary: the
 * last case inside, the first outside, the empty and the full state. How the scripts are written,
 * Script tells; the sentences of "Terms" are in WordTrieTermsTest.
 */
public final class WordTrieEdgeTest {
    private static final String TWENTY = "+a +b +c +d +e +f +g +h +i +j +k +l +m +n +o +p +q +r +s +t";
    private static final String MIN = String.valueOf(Integer.MIN_VALUE);
    private static final String MAX = String.valueOf(Integer.MAX_VALUE);
    private static final Set<Integer> PROMISES_SEEN = new TreeSet<>();

    private static void check(int promise, String sentence, String... steps) {
        PROMISES_SEEN.add(promise);
        Script.check("promise " + promise + ", " + sentence, steps);
    }

    // ---- promise 1: a new object

    private static void newObject() {
        String sentence = "Creates an empty dictionary";
        check(1, sentence, "wordCount=0 occurrences=0 nodeCount=0 nodeCountByNeighbours=0 height=0",
                "insertions=0 removals=0 meanLength!AE prefixShare!AE isConsistent=true");
        check(1, sentence, "contains=false count=0 wordsWithPrefix=0 occurrencesWithPrefix=0",
                "continuations=0 longestPrefix=0 shortestUniquePrefix!NSE rank=0 rankByComparing=0");
        check(1, sentence, "findByRank:0!NSE findByCount:0!NSE findNext!NSE findPrevious!NSE complete!NSE",
                "countMatches=0 findMatch!NSE wordsWithin:9=0 wordsWithinByTrie:9=0 findNearest!NSE",
                "distanceToResult=0");
        check(1, sentence, "buffer= result= program=0 words= undos=0 eraseLast!ISE insert!IAE remove!IAE",
                "erase!IAE run!IAE errorPosition=0 failedCommand!NSE resultAt:0!IOOBE undo!ISE restore!ISE");
        check(1, sentence, "errorPosition!NSE failedCommand!NSE clear=0");
    }

    // ---- promises 2 to 4: word buffer

    private static void type() {
        check(2, "Appends a character to the word buffer",
                "type:c=1 buffer=c type:a=2 buffer=ca type:?=3 buffer=ca?");
        check(2, "Returns the number of characters in the buffer after the call",
                "type:z=1 <abcdefgh> type:i=9 type:j=10");
        check(2, "IllegalArgumentException if it is another character",
                "type:#96!IAE type:#123!IAE type:#62!IAE type:#64!IAE type:A!IAE type:Z!IAE type:#32!IAE");
        check(2, "IllegalArgumentException if it is another character",
                "<abcdefghi> type:A!IAE type:a=10 type:A!IAE");
        check(2, "IllegalStateException if the buffer holds 10 characters",
                "<abcdefghi> type:j=10 type:j!ISE type:?!ISE eraseLast=9 type:?=10 type:a!ISE");
    }

    private static void eraseLast() {
        check(3, "Removes the last character of the word buffer", "<cat> eraseLast=2 buffer=ca eraseLast=1 buffer=c");
        check(3, "Removes the last character of the word buffer", "<ca?> eraseLast=2 buffer=ca");
        check(3, "Returns the number of characters in the buffer after the call",
                "<abcdefghij> eraseLast=9 eraseLast=8 eraseLast=7 eraseLast=6 eraseLast=5 eraseLast=4",
                "eraseLast=3 eraseLast=2 eraseLast=1 eraseLast=0");
        check(3, "IllegalStateException if the buffer is empty",
                "eraseLast!ISE <a> eraseLast=0 eraseLast!ISE eraseLast!ISE type:a=1");
        check(3, "IllegalStateException if the buffer is empty",
                "<a> insert=1 eraseLast!ISE <a> emptyBuffer= eraseLast!ISE");
    }

    private static void emptyBuffer() {
        String sentence = "Empties the word buffer";
        check(4, sentence, "emptyBuffer= buffer= eraseLast!ISE");
        check(4, sentence, "<a> emptyBuffer= buffer= emptyBuffer= buffer=");
        check(4, sentence, "+cat findByRank:0=3 [add] <abcde?ghij> emptyBuffer= buffer= result=cat program=3",
                "words=cat:1");
    }

    // ---- promises 5 to 8: changes

    private static void insert() {
        check(5, "adding the word with the count 1 if it is not contained",
                "<cat> insert=1 words=cat:1 <ca> insert=1 <cats> insert=1 words=ca:1,cat:1,cats:1");
        check(5, "Increases the count of the buffer word by 1", "+cat <cat> insert=2 words=cat:2 insertions=2");
        check(5, "Increases the count of the buffer word by 1",
                "+cat +ca +cats +dog <cat> insert=2 words=ca:1,cat:2,cats:1,dog:1");
        check(5, "and empties the word buffer", "<cat> insert=1 buffer= insert!IAE");
        check(5, "Returns the count of the word after the call",
                "<a> insert=1 <a> insert=2 <a> insert=3 <b> insert=1");
        check(5, "Returns the count of the word after the call", "+a*98 <a> insert=99");
        String sentence = "IllegalArgumentException if the buffer word is empty or has a question mark";
        check(5, sentence, "insert!IAE <?> insert!IAE <?at> insert!IAE <c?t> insert!IAE <ca?> insert!IAE");
        check(5, sentence, "<abcdefghi?> insert!IAE <??????????> insert!IAE words= insertions=0");
        check(5, "IllegalStateException if the count is 99", "+a*99 <a> insert!ISE count=99 insertions=99 buffer=a");
        check(5, "IllegalStateException if the count is 99", "+a*99 <a> remove=98 <a> insert=99 <a> insert!ISE");
        sentence = "or the word is not contained and there are 20 words";
        check(5, sentence, TWENTY, "<u> insert!ISE <aa> insert!ISE <tt> insert!ISE wordCount=20 insertions=20");
        check(5, sentence, TWENTY, "<t> insert=2 <a> insert=2 wordCount=20");
        check(5, sentence, TWENTY, "<t> remove=0 <u> insert=1 <t> insert!ISE");
        check(5, sentence, "+aa +b +c +d +e +f +g +h +i +j +k +l +m +n +o +p +q +r +s +t <a> insert!ISE count=0");
    }

    private static void remove() {
        check(6, "Decreases the count of the buffer word by 1", "+cat*3 <cat> remove=2 words=cat:2 removals=1");
        check(6, "Decreases the count of the buffer word by 1", "+a*99 <a> remove=98 words=a:98");
        check(6, "and empties the word buffer", "+cat*2 <cat> remove=1 buffer= <cat> remove=0 buffer= remove!IAE");
        String sentence = "If the count becomes 0, the word is no longer contained";
        check(6, sentence, "+cat*2 <cat> remove=1 <cat> contains=true remove=0 wordCount=0 <cat> contains=false",
                "count=0");
        check(6, sentence, "+ca +cat <ca> remove=0 words=cat:1 <ca> contains=false wordsWithPrefix=1");
        check(6, sentence, TWENTY, "<j> remove=0 wordCount=19 <j> contains=false remove!NSE");
        check(6, "Returns the count of the word after the call",
                "+a*3 <a> remove=2 <a> remove=1 <a> remove=0 <a> remove!NSE");
        sentence = "IllegalArgumentException if the buffer word is empty or has a question mark";
        check(6, sentence, "+cat remove!IAE <?> remove!IAE <?at> remove!IAE <c?t> remove!IAE <ca?> remove!IAE",
                "words=cat:1");
        check(6, sentence, "remove!IAE <??????????> remove!IAE");
        sentence = "NoSuchElementException if the word is not contained";
        check(6, sentence, "<a> remove!NSE");
        check(6, sentence, "+cat <ca> remove!NSE <cats> remove!NSE <at> remove!NSE <cab> remove!NSE words=cat:1",
                "removals=0");
        check(6, sentence, "+cat undo=0 <cat> remove!NSE <cat> insert=1 clear=1 <cat> remove!NSE");
    }

    private static void erase() {
        String sentence = "Removes the buffer word with its whole count from the dictionary";
        check(7, sentence, "+cat*3 +car <cat> erase=3 words=car:1 removals=3 nodeCount=3");
        check(7, sentence, "+a*99 <a> erase=99 words= removals=99 occurrences=0");
        check(7, sentence, "+ca*2 +cat <ca> erase=2 words=cat:1 nodeCount=3");
        check(7, sentence, TWENTY, "+t <t> erase=2 wordCount=19 occurrences=19");
        check(7, "and empties the word buffer", "+cat*2 <cat> erase=2 buffer= erase!IAE");
        check(7, "Returns the count of the word before the call", "+a +b*2 <a> erase=1 <b> erase=2");
        sentence = "IllegalArgumentException if the buffer word is empty or has a question mark";
        check(7, sentence, "+cat erase!IAE <?> erase!IAE <?at> erase!IAE <c?t> erase!IAE <ca?> erase!IAE",
                "words=cat:1");
        check(7, sentence, "erase!IAE <??????????> erase!IAE");
        sentence = "NoSuchElementException if the word is not contained";
        check(7, sentence, "<a> erase!NSE");
        check(7, sentence, "+cat <ca> erase!NSE <cats> erase!NSE <at> erase!NSE words=cat:1 removals=0");
        check(7, sentence, "+cat <cat> erase=1 <cat> erase!NSE removals=1");
    }

    private static void clear() {
        check(8, "Removes all words", "+a clear=1 words= nodeCount=0 height=0 occurrences=0");
        check(8, "Removes all words", "+cat*2 +ca +dog clear=3 words= <cat> contains=false insert=1");
        String sentence = "The counts of these words are added to the number of removals";
        check(8, sentence, "+a*99 clear=1 removals=99 insertions=99");
        check(8, sentence, "+a*3 +b*2 <a> remove=2 clear=2 removals=5 insertions=5 clear=0 removals=5");
        check(8, "Returns the number of removed words", "clear=0 +a*2 clear=1 clear=0");
        check(8, "Returns the number of removed words", TWENTY, "clear=20 removals=20 wordCount=0 clear=0");
    }

    // ---- promises 9 to 17: queries about the buffer word

    private static void contains() {
        check(9, "Returns whether the buffer word is contained", "+cat +catsanddog",
                "<cat> contains=true <catsanddog> contains=true <> contains=false <c> contains=false",
                "<ca> contains=false <cats> contains=false <catsanddo> contains=false <at> contains=false");
        check(9, "Returns true if it is contained",
                "<a> contains=false insert=1 <a> contains=true remove=0 <a> contains=false");
        check(9, "Returns true if it is contained",
                TWENTY, "<a> contains=true <t> contains=true <u> contains=false <> contains=false");
    }

    private static void count() {
        check(10, "Returns the count of the buffer word",
                "+a +b*2 +c*98 <a> count=1 <b> count=2 <c> count=98 insert=99 <c> count=99");
        String sentence = "0 if the word is not contained";
        check(10, sentence, "count=0 <a> count=0");
        check(10, sentence, "+cat*2 count=0 <ca> count=0 <cats> count=0 <ca?> count=0 <cat> count=2 erase=2",
                "<cat> count=0");
    }

    private static void wordsWithPrefix() {
        String sentence = "contained words that begin with the buffer word, possibly equal to it";
        check(11, sentence, "+ca +cat*2 +cats +cot +dog <ca> wordsWithPrefix=3 <cat> wordsWithPrefix=2",
                "<cats> wordsWithPrefix=1 <catsx> wordsWithPrefix=0 <at> wordsWithPrefix=0 <c> wordsWithPrefix=4");
        check(11, sentence, "<a> wordsWithPrefix=0 <abcdefghij> wordsWithPrefix=0 insert=1 <abcdefghij>",
                "wordsWithPrefix=1");
        check(11, "All words begin with the empty word",
                "wordsWithPrefix=0 +a*2 wordsWithPrefix=1 +b wordsWithPrefix=2");
        check(11, "All words begin with the empty word",
                TWENTY, "wordsWithPrefix=20 <t> wordsWithPrefix=1 <u> wordsWithPrefix=0");
    }

    private static void occurrencesWithPrefix() {
        String sentence = "the sum of the counts of the contained words that begin with the buffer word";
        check(12, sentence, "+ca +cat*2 +cats*3 +dog*4 <ca> occurrencesWithPrefix=6 <cat> occurrencesWithPrefix=5",
                "<cats> occurrencesWithPrefix=3 <catsx> occurrencesWithPrefix=0 <> occurrencesWithPrefix=10");
        check(12, sentence, "occurrencesWithPrefix=0 <a> occurrencesWithPrefix=0");
        check(12, sentence, "+a*99 +ab*9 <a> occurrencesWithPrefix=108 <ab> occurrencesWithPrefix=9 <>",
                "occurrencesWithPrefix=108");
        check(12, sentence, TWENTY, "occurrencesWithPrefix=20 <t> occurrencesWithPrefix=1");
    }

    private static void continuations() {
        String sentence = "how many different letters follow the buffer word in the contained words that begin"
                + " with it and are longer";
        check(13, sentence, "continuations=0 <a> continuations=0");
        check(13, sentence, "+ca +cat +cab +cats*2 +catch <ca> continuations=2 <cat> continuations=2 <c>",
                "continuations=1",
                "<cats> continuations=0 <catsx> continuations=0 <> continuations=1");
        check(13, sentence, TWENTY, "continuations=20 <a> continuations=0");
        check(13, sentence, "+a +aa +ab +ac +ad +ae +af +ag +ah +ai +aj +ak +al +am +an +ao +ap +aq +ar +az",
                "<a> continuations=19 <> continuations=1 <az> remove=0 <a> continuations=18");
        check(13, sentence, "+abcdefghij <abcdefghi> continuations=1 <abcdefghij> continuations=0");
    }

    private static void longestPrefix() {
        String sentence = "the longest prefix of the buffer word with which some contained word begins";
        check(14, sentence, "+cat +catsanddog <cat> longestPrefix=3 <catsup> longestPrefix=4 <ca> longestPrefix=2",
                "<catsanddog> longestPrefix=10 <catsanddoe> longestPrefix=9 <cx> longestPrefix=1 <ca?s>",
                "longestPrefix=2");
        sentence = "0 if there is no such prefix of 1 or more letters";
        check(14, sentence, "longestPrefix=0 <a> longestPrefix=0 <abcdefghij> longestPrefix=0");
        check(14, sentence, "+cat longestPrefix=0 <at> longestPrefix=0 <?at> longestPrefix=0 <c> longestPrefix=1");
        check(14, sentence, TWENTY, "<u> longestPrefix=0 <t> longestPrefix=1 <tu> longestPrefix=1");
    }

    private static void shortestUniquePrefix() {
        String sentence = "the shortest prefix of the buffer word, with 1 or more letters, with which no other"
                + " contained word begins";
        check(15, sentence, "+abcdefghij <abcdefghij> shortestUniquePrefix=1");
        check(15, sentence, "+abcdefghij +abcdefghik <abcdefghij> shortestUniquePrefix=10 <abcdefghik>",
                "shortestUniquePrefix=10");
        check(15, sentence, "+ca +cat*2 +dog <cat> shortestUniquePrefix=3 <dog> shortestUniquePrefix=1");
        check(15, sentence, "+a*99 <a> shortestUniquePrefix=1 +b <a> shortestUniquePrefix=1");
        check(15, sentence, TWENTY, "<a> shortestUniquePrefix=1 <t> shortestUniquePrefix=1");
        check(15, sentence, "+cat +car <cat> shortestUniquePrefix=3 <car> erase=1 <cat> shortestUniquePrefix=1");
        sentence = "NoSuchElementException if the buffer word is not contained";
        check(15, sentence, "shortestUniquePrefix!NSE <a> shortestUniquePrefix!NSE");
        check(15, sentence, "+cat <ca> shortestUniquePrefix!NSE <cats> shortestUniquePrefix!NSE <ca?>",
                "shortestUniquePrefix!NSE",
                "<> shortestUniquePrefix!NSE <dog> shortestUniquePrefix!NSE");
        sentence = "or another contained word begins with the whole buffer word";
        check(15, sentence, "+ca +cat <ca> shortestUniquePrefix!NSE <cat> erase=1 <ca> shortestUniquePrefix=1");
        check(15, sentence, "+abcdefghi +abcdefghij <abcdefghi> shortestUniquePrefix!NSE <abcdefghij>",
                "shortestUniquePrefix=10");
    }

    private static void ranks() {
        for (String rank : new String[] {"rank", "rankByComparing"}) {
            int promise = rank.equals("rank") ? 16 : 17;
            String sentence = "the number of contained words that come before the buffer word in alphabetical order";
            check(promise, sentence, rank + "=0 <zzzzzzzzzz>", rank + "=0");
            check(promise, sentence, "+b*2 +ba +baa +c <>", rank + "=0 <a>", rank + "=0 <azzzzzzzzz>",
                rank + "=0 <b>",
                    rank + "=0 <ba>", rank + "=1 <baa>", rank + "=2 <bab>", rank + "=3 <bb>", rank + "=3 <c>",
                    rank + "=3 <ca>", rank + "=4 <z>", rank + "=4");
            check(promise, sentence, "+abcdefghij <abcdefghi>", rank + "=0 <abcdefghij>", rank + "=0",
                "<abcdefghik>", rank + "=1");
            check(promise, sentence, TWENTY, rank + "=0 <a>", rank + "=0 <t>", rank + "=19 <ta>", rank + "=20",
                "<zz>", rank + "=20");
            sentence = "IllegalArgumentException if the buffer word has a question mark";
            check(promise, sentence, "<?>", rank + "!IAE +a <a?>", rank + "!IAE <?a>", rank + "!IAE <a>",
                rank + "=0");
            check(promise, sentence, "<abcdefghi?>", rank + "!IAE eraseLast=9", rank + "=0 <??????????>",
                rank + "!IAE");
        }
    }

    // ---- promises 18 to 28: finding words

    private static void findByRank() {
        String sentence = "Stores the contained word at a rank in alphabetical order as the result";
        check(18, sentence, "+dog +b*2 +ba findByRank:0=1 result=b findByRank:1=2 result=ba findByRank:2=3",
                "result=dog");
        check(18, "Returns the length of the result",
                "+a +abcdefghij findByRank:0=1 findByRank:1=10 result=abcdefghij");
        sentence = "NoSuchElementException if the rank is negative or not less than the number of words";
        check(18, sentence, "findByRank:0!NSE findByRank:-1!NSE findByRank:1!NSE");
        check(18, sentence, "+a findByRank:0=1 findByRank:1!NSE findByRank:-1!NSE result=a");
        check(18, sentence, TWENTY, "findByRank:19=1 result=t findByRank:20!NSE findByRank:21!NSE findByRank:-1!NSE",
                "findByRank:-20!NSE findByRank:" + MIN + "!NSE findByRank:" + MAX + "!NSE findByRank:0=1 result=a");
    }

    private static void findByCount() {
        String sentence = "ordered by count in descending order, and words with equal counts alphabetically";
        check(19, sentence, "+d*2 +c*2 +b +a +bb*3 findByCount:0=2 result=bb findByCount:1=1 result=c",
                "findByCount:2=1 result=d findByCount:3=1 result=a findByCount:4=1 result=b");
        check(19, sentence, "+b*98 +a*97 findByCount:0=1 result=b <a> insert=98 findByCount:0=1 result=a",
                "findByCount:1=1 result=b");
        check(19, sentence, "+ab +a findByCount:0=1 result=a findByCount:1=2 result=ab <ab> insert=2",
                "findByCount:0=2");
        check(19, sentence, TWENTY, "+t findByCount:0=1 result=t findByCount:1=1 result=a findByCount:19=1 result=s");
        check(19, "Returns the length of the result", "+abcdefghij*2 +a findByCount:0=10 findByCount:1=1");
        sentence = "NoSuchElementException if the rank is negative or not less than the number of words";
        check(19, sentence, "findByCount:0!NSE findByCount:-1!NSE findByCount:1!NSE");
        check(19, sentence, "+a*3 findByCount:0=1 findByCount:1!NSE findByCount:2!NSE findByCount:-1!NSE result=a");
        check(19, sentence, TWENTY, "findByCount:19=1 result=t findByCount:20!NSE findByCount:21!NSE",
                "findByCount:-1!NSE",
                "findByCount:-20!NSE findByCount:" + MIN + "!NSE findByCount:" + MAX + "!NSE result=t");
        check(19, sentence, "+a +b*2 findByCount:1=1 <b> erase=2 findByCount:1!NSE findByCount:0=1 result=a");
    }

    private static void findNext() {
        String sentence = "Stores the first contained word that comes after the buffer word in alphabetical order";
        check(20, sentence, "+b +ba*2 +d findNext=1 result=b <a> findNext=1 result=b <b> findNext=2 result=ba",
                "<ba> findNext=1 result=d <baa> findNext=1 result=d <c> findNext=1 result=d");
        check(20, sentence, "+abcdefghij <abcdefghi> findNext=10 result=abcdefghij <abcdefghij> findNext!NSE");
        check(20, sentence, TWENTY, "findNext=1 result=a <s> findNext=1 result=t <t> findNext!NSE result=t");
        check(20, "Returns the length of the result", "+a +bcdefghijk findNext=1 <a> findNext=10");
        sentence = "IllegalArgumentException if the buffer word has a question mark";
        check(20, sentence, "<?> findNext!IAE");
        check(20, sentence, "+b <?> findNext!IAE <a?> findNext!IAE <?a> findNext!IAE <z?> findNext!IAE <a>",
                "findNext=1");
        sentence = "NoSuchElementException if there is no such word";
        check(20, sentence, "findNext!NSE <a> findNext!NSE");
        check(20, sentence, "+b <a> findNext=1 <b> findNext!NSE <ba> findNext!NSE <zzzzzzzzzz> findNext!NSE",
                "result=b");
    }

    private static void findPrevious() {
        String sentence = "Stores the last contained word that comes before the buffer word in alphabetical order";
        check(21, sentence, "+b +ba*2 +d <ba> findPrevious=1 result=b <baa> findPrevious=2 result=ba",
                "<c> findPrevious=2 result=ba <d> findPrevious=2 result=ba <da> findPrevious=1 result=d");
        check(21, sentence, "+abcdefghi +abcdefghij <abcdefghij> findPrevious=9 <abcdefghik> findPrevious=10");
        check(21, sentence, TWENTY, "<zz> findPrevious=1 result=t <t> findPrevious=1 result=s <b>",
                "findPrevious=1 result=a");
        check(21, "Returns the length of the result", "+a +bcdefghijk <b> findPrevious=1 <z> findPrevious=10");
        sentence = "IllegalArgumentException if the buffer word has a question mark";
        check(21, sentence, "<?> findPrevious!IAE");
        check(21, sentence, "+b <?> findPrevious!IAE <z?> findPrevious!IAE <?z> findPrevious!IAE <a?>",
                "findPrevious!IAE <z> findPrevious=1");
        sentence = "NoSuchElementException if there is no such word";
        check(21, sentence, "findPrevious!NSE <z> findPrevious!NSE");
        check(21, sentence, "+b <ba> findPrevious=1 <b> findPrevious!NSE <azzzzzzzzz> findPrevious!NSE <>",
                "findPrevious!NSE result=b");
    }

    private static void complete() {
        String sentence = "Stores the first word in frequency order that begins with the buffer word, possibly the"
                + " buffer word itself";
        check(22, sentence, "+car +cart*2 +cat*2 +dog*3 +do complete=3 result=dog <c> complete=4 result=cart",
                "<car> complete=4 result=cart <cat> complete=3 result=cat <cart> complete=4 <do> complete=3",
                "result=dog");
        check(22, sentence, "+a +ab <a> complete=1 result=a <ab> insert=2 <a> complete=2 result=ab <a> insert=2",
                "<a> complete=1");
        check(22, sentence, "+abcdefghij <abcdefghi> complete=10 <abcdefghij> complete=10 result=abcdefghij");
        check(22, sentence, TWENTY, "complete=1 result=a <t> complete=1 result=t <t> insert=2 complete=1 result=t");
        check(22, sentence, "+a*3 +b +ba +c*3 <b> complete=1 result=b <ba> complete=2 result=ba <a> complete=1",
                "result=a");
        check(22, sentence, "+a*98 +b*99 complete=1 result=b <a> insert=99 complete=1 result=a");
        sentence = "NoSuchElementException if there is no such word";
        check(22, sentence, "complete!NSE <a> complete!NSE");
        check(22, sentence, "+cat <ca> complete=3 <cats> complete!NSE <cb> complete!NSE <?> complete!NSE <ca?>",
                "complete!NSE result=cat");
        check(22, sentence, "+cat clear=1 complete!NSE");
    }

    private static void matches() {
        String[][] rows = {
            // pattern, how many match, length and word of the first
            {"", "0", null}, {"?", "1", "1 result=z"}, {"z", "1", "1 result=z"}, {"a", "0", null},
            {"??", "1", "2 result=be"}, {"???", "3", "3 result=ace"}, {"????", "0", null},
            {"b??", "2", "3 result=bed"}, {"??e", "2", "3 result=ace"}, {"?e?", "2", "3 result=bed"},
            {"be?", "2", "3 result=bed"}, {"bee", "1", "3 result=bee"}, {"bea", "0", null},
            {"b?e", "1", "3 result=bee"}, {"c??", "0", null}, {"e?", "0", null},
            {"??????????", "1", "10 result=abcdefghij"}, {"?????????j", "1", "10 result=abcdefghij"},
            {"?????????k", "0", null}, {"b?????????", "0", null}, {"?????????", "0", null},
        };
        for (String[] row : rows) {
            String words = "+bee*2 +bed +be +ace +z +abcdefghij findByRank:3 <" + row[0] + ">";
            check(23, "words of the same length that have the same letter at each position at which the pattern"
                    + " has a letter", words, "countMatches=" + row[1]);
            check(24, "Stores the alphabetically first word that matches the buffer word as a pattern", words,
                    row[2] == null ? "findMatch!NSE result=bed" : "findMatch=" + row[2]);
        }
        check(23, "Returns the number of words", "countMatches=0 <?> countMatches=0 +a countMatches=0");
        check(23, "Returns the number of words",
                TWENTY, "<?> countMatches=20 <??> countMatches=0 <t> countMatches=1");
        check(24, "NoSuchElementException if no word matches", "findMatch!NSE <?> findMatch!NSE <a> findMatch!NSE");
        check(24, "NoSuchElementException if no word matches",
                TWENTY, "<?> findMatch=1 result=a <??> findMatch!NSE <> findMatch!NSE",
                "<u> findMatch!NSE <t> findMatch=1 result=t");
    }

    private static void within() {
        for (String within : new String[] {"wordsWithin:", "wordsWithinByTrie:"}) {
            int promise = within.equals("wordsWithin:") ? 25 : 26;
            String sentence = "contained words whose edit distance to the buffer word is at most a limit";
            check(promise, sentence, "+kitten*2 +sitting +mitten +kit <kitten>", within + "0=1", within + "1=2",
                    within + "2=2", within + "3=4", within + "9=4");
            check(promise, sentence, "+a +ab +abc <>", within + "0=0", within + "1=1", within + "2=2",
                within + "3=3");
            check(promise, sentence, "+a +ab +abc <abc>", within + "0=1", within + "1=2", within + "2=3");
            check(promise, sentence, "+bbbbbbbbba +bbbbbbbbbb <aaaaaaaaaa>", within + "8=0", within + "9=1");
            check(promise, sentence, "+aaaaaaaaa +aaaaaaaaaa <>", within + "8=0", within + "9=1");
            check(promise, sentence, TWENTY, "<zz>", within + "0=0", within + "1=0", within + "2=20",
                within + "9=20");
            check(promise, sentence, within + "0=0", within + "9=0 <a>", within + "9=0");
            sentence = "IllegalArgumentException if the limit is out of range";
            check(promise, sentence, "+a", within + "0=0", within + "-1!IAE", within + "9=1",
                within + "10!IAE", within + "11!IAE");
            check(promise, sentence, within + "-1!IAE", within + "10!IAE", within + MIN + "!IAE",
                within + MAX + "!IAE");
        }
    }

    private static void findNearest() {
        String sentence = "Stores the contained word with the smallest edit distance to the buffer word";
        check(27, sentence, "+cat*9 +horse <cat> findNearest=0 result=cat <house> findNearest=1 result=horse");
        check(27, sentence, "+bbbbbbbbbb <aaaaaaaaaa> findNearest=10 <> findNearest=10 result=bbbbbbbbbb");
        check(27, sentence, "+a +bbbbbbbbbb <bbbbbbbbbb> findNearest=0 <> findNearest=1 result=a");
        sentence = "Of several such words the first one in frequency order is used";
        check(27, sentence, "+bat +cat +rat*2 <hat> findNearest=1 result=rat <bat> insert=2 <hat> findNearest=1",
                "result=bat");
        check(27, sentence, "+rat +cat +bat <hat> findNearest=1 result=bat");
        check(27, sentence, TWENTY, "<z> findNearest=1 result=a <t> insert=2 <z> findNearest=1 result=t <a>",
                "findNearest=0 result=a");
        check(27, "Returns the edit distance", "+kitten <sitting> findNearest=3 result=kitten");
        sentence = "NoSuchElementException if the dictionary is empty";
        check(27, sentence, "findNearest!NSE <a> findNearest!NSE");
        check(27, sentence, "+a findNearest=1 clear=1 findNearest!NSE result=a");
    }

    private static void distanceToResult() {
        String sentence = "Returns the edit distance of the result to the buffer word";
        check(28, sentence, "distanceToResult=0 <a> distanceToResult=1 <??????????> distanceToResult=10");
        check(28, sentence, "+a findByRank:0=1 distanceToResult=1 <a> distanceToResult=0 <b> distanceToResult=1");
        check(28, sentence, "+abcdefghij findByRank:0=10 distanceToResult=10 <abcdefghij> distanceToResult=0",
                "<bcdefghijk> distanceToResult=2 <klmnopqrst> distanceToResult=10 <a?cdefghij> distanceToResult=1");
        check(28, sentence, "+cat findByRank:0=3 clear=1 <car> distanceToResult=1");
    }

    // ---- promises 29 to 38: queries about the dictionary

    private static void wordCount() {
        check(29, "Returns the number, 0 to 20",
                "wordCount=0 <a> insert=1 wordCount=1 <a> insert=2 wordCount=1 <a> erase=2 wordCount=0");
        check(29, "Returns the number, 0 to 20",
                TWENTY, "wordCount=20 <u> insert!ISE wordCount=20 <a> remove=0 wordCount=19");
    }

    private static void occurrences() {
        String sentence = "Returns the sum of the counts of all contained words";
        check(30, sentence, "occurrences=0 <a> insert=1 occurrences=1 <a> insert=2 occurrences=2 <b> insert=1",
                "occurrences=3");
        check(30, sentence, "+a*99 +b*99 occurrences=198 <a> remove=98 occurrences=197 <b> erase=99",
                "occurrences=98 clear=1 occurrences=0");
        check(30, sentence, TWENTY, "occurrences=20");
    }

    private static void nodeCounts() {
        for (String nodes : new String[] {"nodeCount=", "nodeCountByNeighbours="}) {
            int promise = nodes.equals("nodeCount=") ? 31 : 32;
            String sentence = "Returns the number of nodes of the trie without the root";
            check(promise, sentence, nodes + "0 +a", nodes + "1 +a", nodes + "1 +ab", nodes + "2 +b", nodes + "3");
            check(promise, sentence, "+ab", nodes + "2", nodes + "2 +abc", nodes + "3", nodes + "3 +b",
                nodes + "4", nodes + "4");
            check(promise, sentence, "+abcdefghij", nodes + "10 +abcdefghi", nodes + "10 +abcdefghia", nodes + "11");
            check(promise, sentence, TWENTY, nodes + "20 <t> erase=1", nodes + "19 clear=19", nodes + "0");
            check(promise, sentence, "+ab isConsistent=true", nodes + "2 +abd +abc isConsistent=true", nodes + "4");
        }
        check(32, "its length minus the length of the longest prefix that it shares with the word before it",
                "+catch +car +cat +dog nodeCountByNeighbours=9 <cat> erase=1 nodeCountByNeighbours=9",
                "<catch> erase=1 nodeCountByNeighbours=6");
    }

    private static void height() {
        check(33, "Returns the length of the longest contained word",
                "+a height=1 +abc height=3 +ab height=3 <abc> erase=1 height=2");
        check(33, "Returns the length of the longest contained word",
                "+abcdefghij +z height=10 <abcdefghij> remove=0 height=1");
        check(33, "0 if the dictionary is empty", "height=0 +a clear=1 height=0 undo=1 height=1");
        check(33, "0 if the dictionary is empty", TWENTY, "height=1");
    }

    private static void insertions() {
        String sentence = "the number of successful calls of insert and of add commands";
        check(34, sentence, "insertions=0 <a> insert=1 insertions=1 <a> insert=2 insertions=2 <b> insert=1",
                "insertions=3");
        check(34, sentence, "insert!IAE <?> insert!IAE insertions=0");
        check(34, sentence, "+a*99 <a> insert!ISE insertions=99 <a> remove=98 <a> insert=99 insertions=100");
        check(34, sentence, TWENTY, "<u> insert!ISE insertions=20");
        check(34, sentence, "[add_a;add_a;remove_a] run=3 insertions=2 [add_b;remove_c] run!UOE insertions=2",
                "[add_b;] run!IAE insertions=2");
        check(34, sentence, "+a*3 <a> erase=3 insertions=3 clear=0 insertions=3 undo=4 insertions=3 undo=3",
                "undo=2 insertions=2");
        check(34, sentence, "+a save= +b insertions=2 restore= insertions=1");
    }

    private static void removals() {
        String sentence = "the sum of the amounts by which counts were decreased";
        check(35, sentence, "removals=0 +a*3 removals=0 <a> remove=2 removals=1 <a> erase=2 removals=3");
        check(35, sentence, "+a*99 <a> erase=99 removals=99 +a*2 +b clear=2 removals=102");
        check(35, sentence, "<a> remove!NSE erase!NSE <?> remove!IAE erase!IAE clear=0 removals=0");
        check(35, sentence, "+a*3 +b [remove_a;erase_a;add_c;remove_c] run=4 removals=4 [erase_b;erase_a]",
                "run!UOE removals=4");
        check(35, sentence, "+a*3 <a> erase=3 removals=3 undo=3 removals=0");
        check(35, sentence, "+a*3 <a> remove=2 save= clear=1 removals=3 restore= removals=1");
    }

    private static void meanLength() {
        String sentence = "the sum of the lengths divided by the number of words, both converted to double";
        check(36, sentence, "+a meanLength=1.0 +ab*9 meanLength=1.5 +abcd meanLength=" + 7.0 / 3.0);
        check(36, sentence, "+abcdefghij meanLength=10.0");
        check(36, sentence, TWENTY, "meanLength=1.0 <t> erase=1 <tu> insert=1 meanLength=" + 21.0 / 20.0);
        check(36, "ArithmeticException if the dictionary is empty",
                "meanLength!AE +a meanLength=1.0 <a> remove=0 meanLength!AE");
    }

    private static void prefixShare() {
        String sentence = "the sum of the counts of these words divided by the sum of all counts, both converted"
                + " to float";
        check(37, sentence, "+a*2 +ab +b prefixShare=1.0 <a> prefixShare=0.75 <ab> prefixShare=0.25 <abc>",
                "prefixShare=0.0 <?> prefixShare=0.0");
        check(37, sentence, "+a +b +c <a> prefixShare=" + 1.0f / 3.0f, "+b <b> prefixShare=" + 2.0f / 4.0f);
        check(37, sentence, "+a*99 +b <a> prefixShare=" + 99.0f / 100.0f, "<b> prefixShare=" + 1.0f / 100.0f);
        check(37, sentence, TWENTY, "<t> prefixShare=" + 1.0f / 20.0f, "<u> prefixShare=0.0 <> prefixShare=1.0");
        sentence = "ArithmeticException if the dictionary is empty";
        check(37, sentence, "prefixShare!AE <a> prefixShare!AE insert=1 prefixShare=1.0 clear=1 prefixShare!AE");
    }

    private static void isConsistent() {
        String sentence = "Returns true if all invariants hold";
        check(38, sentence, "isConsistent=true <a> insert=1 isConsistent=true isConsistent=true <a> remove=0",
                "isConsistent=true");
        check(38, sentence, "+ab*2 +a +abc +b isConsistent=true <ab> erase=2 isConsistent=true undo=5",
                "isConsistent=true",
                "save= clear=4 isConsistent=true restore= isConsistent=true [add_z;erase_a] run=2 isConsistent=true",
                "[add_y;erase_x] run!UOE isConsistent=true");
        check(38, sentence, "+a*99 isConsistent=true <a> insert!ISE isConsistent=true <a> erase=99",
                "isConsistent=true");
        check(38, sentence, TWENTY, "isConsistent=true <u> insert!ISE isConsistent=true clear=20 isConsistent=true");
    }

    // ---- promises 39 to 42: programs

    private static void append() {
        check(39, "any character",
                "append:a=1 append:#0=2 append:#65535=3 append:#32=4 append:#59=5 append:?=6 append:#233=7");
        String sixty = "add_a;".repeat(9) + "add_ab";
        check(39, "Returns the number of characters in the buffer after the call",
                "append:a=1 append:d=2 [" + sixty.substring(2, 58) + "] append:a=59 append:b=60 run=10");
        String sentence = "IllegalStateException if the buffer contains 60 characters";
        check(39, sentence, "[" + sixty.substring(0, 59) + "] append:c=60 append:d!ISE append:#0!ISE program=60",
                "run=10 append:a=1");
        check(39, sentence, "[" + "x".repeat(59) + "] append:x=60 append:x!ISE run!IAE append:x=1");
    }

    private static void run() {
        String sentence = "The commands are carried out in order";
        check(40, sentence, "[add_a;remove_a;add_a] run=3 words=a:1 insertions=2 removals=1");
        check(40, sentence, "[remove_a;add_a] run!UOE failedCommand=0 [add_a;remove_a] run=2 words=");
        check(40, sentence, "+a*2 [erase_a;add_a] run=2 words=a:1 undo=2 words=a:2 [add_a;erase_a] run=2 words=");
        sentence = "If one of them fails, none of them has an effect";
        check(40, sentence, "+a [add_b;add_c;erase_a;remove_d] run!UOE failedCommand=3 words=a:1 insertions=1",
                "removals=0 undos=1");
        check(40, sentence, "[remove_d;add_b] run!UOE words= undos=0");
        sentence = "The program buffer is empty afterwards in every case";
        check(40, sentence, "[add_a] run=1 program=0 [add_a;] run!IAE program=0 [erase_b] run!UOE program=0",
                "run!IAE program=0");
        check(40, sentence, "[" + "add_a;".repeat(9) + "add_ab] run=10 program=0 [add_a] run=1 words=a:10,ab:1");
        sentence = "The word buffer does not change";
        check(40, sentence, "<a> [add_a] run=1 buffer=a [erase_b] run!UOE buffer=a [a] run!IAE buffer=a");
        check(40, sentence, "<abcdefgh?j> [add_a] run=1 buffer=abcdefgh?? <> [erase_a] run=1 buffer=");
        check(40, "Returns the number of commands",
                "[add_a] run=1 [add_a;add_b] run=2 [" + "add_a;".repeat(9) + "add_a] run=10");
        check(40, "IllegalArgumentException if the text is not a program; the error position is stored",
                "run!IAE errorPosition=0 [add] run!IAE errorPosition=3 [add_a!] run!IAE errorPosition=5",
                "failedCommand!NSE");
        check(40, "UnsupportedOperationException if a command fails; the index of the command, from 0, is stored",
                "[erase_a] run!UOE failedCommand=0 [add_a;erase_b] run!UOE failedCommand=1 errorPosition!NSE",
                "[" + "add_a;".repeat(8) + "erase_b] run!UOE failedCommand=8");
    }

    private static void storedNumbers() {
        String sentence = "Returns the error position that was stored last";
        check(41, sentence, "[add_a;] run!IAE errorPosition=6 errorPosition=6 run!IAE errorPosition=0");
        check(41, sentence, "[a] run!IAE [add_a] run=1 errorPosition=1 [erase_b] run!UOE errorPosition=1 undo=0",
                "errorPosition=1");
        check(41, sentence, "[add] run!IAE save= restore= clear=0 errorPosition=3");
        check(41, sentence, "[" + "add_a;".repeat(10) + "] run!IAE errorPosition=60");
        check(41, "NoSuchElementException if none was stored",
                "errorPosition!NSE [add_a] run=1 errorPosition!NSE [erase_b] run!UOE errorPosition!NSE");
        sentence = "Returns the failed command that was stored last";
        check(42, sentence, "[add_a;erase_b] run!UOE failedCommand=1 failedCommand=1 [erase_a] run!UOE",
                "failedCommand=0");
        check(42, sentence, "[add_a;erase_b] run!UOE [add_a] run=1 failedCommand=1 run!IAE failedCommand=1",
                "undo=0 failedCommand=1");
        check(42, sentence, "[add_a;erase_b] run!UOE save= restore= clear=0 failedCommand=1");
        check(42, "NoSuchElementException if none was stored",
                "failedCommand!NSE [add_a] run=1 failedCommand!NSE [add_] run!IAE failedCommand!NSE");
    }

    // ---- promises 43 to 46: result, undo and snapshot

    private static void resultAt() {
        String sentence = "Returns a letter of the result";
        check(43, sentence, "+abcdefghij findByRank:0=10 resultAt:0=a resultAt:1=b resultAt:8=i resultAt:9=j");
        check(43, sentence, "+z findByRank:0=1 resultAt:0=z");
        sentence = "IndexOutOfBoundsException if the index is negative or not less than the length of the result";
        check(43, sentence, "resultAt:0!IOOBE resultAt:-1!IOOBE resultAt:1!IOOBE");
        check(43, sentence, "+a findByRank:0=1 resultAt:0=a resultAt:1!IOOBE resultAt:-1!IOOBE");
        check(43, sentence, "+abcdefghij +b findByRank:0=10 resultAt:9=j resultAt:10!IOOBE resultAt:11!IOOBE",
                "resultAt:-1!IOOBE",
                "resultAt:" + MIN + "!IOOBE resultAt:" + MAX + "!IOOBE findByRank:1=1 resultAt:0=b",
                "resultAt:1!IOOBE resultAt:9!IOOBE");
    }

    private static void undo() {
        String sentence = "Undoes the most recent changing call that has not been undone";
        check(44, sentence, "+a +b <a> remove=0 undo=2 words=a:1,b:1 undo=1 words=a:1 undo=0 words=");
        check(44, sentence, "+a +b undo=1 words=a:1 +c undo=1 words=a:1 undo=0 words= undo!ISE");
        check(44, sentence, "+a*2 clear=1 undo=2 words=a:2 clear=1 undo=2 words=a:2 insertions=2 removals=0");
        check(44, "Returns the number of calls that can still be undone", "+a undo=0 +a*8 undo=7 undo=6");
        check(44, "Returns the number of calls that can still be undone",
                "+a*9 undo=7 undo=6 undo=5 undo=4 undo=3 undo=2 undo=1 undo=0 undo!ISE words=a:1");
        sentence = "IllegalStateException if no call can be undone";
        check(44, sentence, "undo!ISE <a> insert=1 undo=0 undo!ISE undo!ISE");
        check(44, sentence, "<> insert!IAE [x] run!IAE save= undo!ISE");
        check(44, sentence, "+a save= restore= undo!ISE +b undo=0 undo!ISE words=a:1");
    }

    private static void save() {
        check(45, "Saves the state", "save= saved= +a saved= restore= words= insertions=0");
        check(45, "Saves the state",
                "+a*2 <a> remove=1 save= saved=a:1 clear=1 restore= words=a:1 insertions=2 removals=1");
        check(45, "Saves the state", TWENTY, "save= clear=20 restore= wordCount=20");
        check(45, "replacing a previously saved state",
                "+a save= +b save= saved=a:1,b:1 clear=2 save= saved= restore= words=");
        check(45, "Saving is not a changing call", "save= undo!ISE +a save= save= undos=1 undo=0 undo!ISE");
        check(45, "Saving is not a changing call", "+a*8 save= undos=8 undo=7");
    }

    private static void restore() {
        check(46, "Restores the saved state",
                "+a*2 save= <a> erase=2 <b> insert=1 restore= words=a:2 insertions=2 removals=0");
        check(46, "which stays saved",
                "+a save= clear=1 restore= saved=a:1 clear=1 restore= words=a:1 restore= words=a:1");
        check(46, "which stays saved", "+a save= undo=0 restore= words=a:1 <a> insert=2 undo=0 saved=a:1");
        check(46, "Afterwards no call can be undone",
                "+a +b save= restore= undos=0 undo!ISE clear=2 undos=1 undo=0 undo!ISE");
        check(46, "Afterwards no call can be undone", "save= +a*9 restore= undos=0 undo!ISE +a*9 undos=8");
        check(46, "IllegalStateException if no state was saved",
                "restore!ISE +a restore!ISE undos=1 save= restore= undos=0");
    }

    // ---- what the scripts have seen

    private static void allIsSeen() {
        for (int promise = 1; promise <= 46; promise++) {
            Script.tell(PROMISES_SEEN.contains(promise), "no script for promise " + promise);
        }
        Set<String> due = new TreeSet<>(Set.of("type IllegalArgumentException", "type IllegalStateException",
                "eraseLast IllegalStateException", "insert IllegalArgumentException",
                "insert IllegalStateException", "remove IllegalArgumentException",
                "remove NoSuchElementException", "erase IllegalArgumentException",
                "erase NoSuchElementException", "shortestUniquePrefix NoSuchElementException",
                "rank IllegalArgumentException", "rankByComparing IllegalArgumentException",
                "findByRank NoSuchElementException", "findByCount NoSuchElementException",
                "findNext IllegalArgumentException", "findNext NoSuchElementException",
                "findPrevious IllegalArgumentException", "findPrevious NoSuchElementException",
                "complete NoSuchElementException", "findMatch NoSuchElementException",
                "wordsWithin IllegalArgumentException", "wordsWithinByTrie IllegalArgumentException",
                "findNearest NoSuchElementException", "meanLength ArithmeticException",
                "prefixShare ArithmeticException", "append IllegalStateException",
                "run IllegalArgumentException", "run UnsupportedOperationException",
                "errorPosition NoSuchElementException", "failedCommand NoSuchElementException",
                "resultAt IndexOutOfBoundsException", "undo IllegalStateException",
                "restore IllegalStateException"));
        Script.tell(Script.thrown().equals(due), "the scripts saw thrown " + Script.thrown());
        Script.tell(Script.answered().size() == 45, "the scripts saw answers of " + Script.answered());
    }

    public static void main(String[] args) {
        newObject();
        type();
        eraseLast();
        emptyBuffer();
        insert();
        remove();
        erase();
        clear();
        contains();
        count();
        wordsWithPrefix();
        occurrencesWithPrefix();
        continuations();
        longestPrefix();
        shortestUniquePrefix();
        ranks();
        findByRank();
        findByCount();
        findNext();
        findPrevious();
        complete();
        matches();
        within();
        findNearest();
        distanceToResult();
        wordCount();
        occurrences();
        nodeCounts();
        height();
        insertions();
        removals();
        meanLength();
        prefixShare();
        isConsistent();
        append();
        run();
        storedNumbers();
        resultAt();
        undo();
        save();
        restore();
        allIsSeen();
        Script.finish();
    }
}
