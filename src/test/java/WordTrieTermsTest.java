/**
 * The sentences of the document's section "Terms", each at its boundary: the last case inside, the
 * first outside, the empty and the full state. How the scripts are written, Script tells.
 */
public final class WordTrieTermsTest {
    private static final String TWENTY = "+a +b +c +d +e +f +g +h +i +j +k +l +m +n +o +p +q +r +s +t";
    private static final String NINETEEN = "+a +b +c +d +e +f +g +h +i +j +k +l +m +n +o +p +q +r +s";
    private static final String TWENTY_AS_READ =
            "a:1,b:1,c:1,d:1,e:1,f:1,g:1,h:1,i:1,j:1,k:1,l:1,m:1,n:1,o:1,p:1,q:1,r:1,s:1,t:1";

    // ---- words

    private static void wordsHaveOneToTenLetters() {
        String sentence = "A word is a sequence of 1 to 10 letters from 'a' to 'z'";
        Script.check(sentence, "<> insert!IAE wordCount=0");
        Script.check(sentence, "<a> insert=1 <z> insert=1 words=a:1,z:1");
        Script.check(sentence, "<abcdefghij> insert=1 words=abcdefghij:1");
        Script.check(sentence, "<zzzzzzzzzz> insert=1 words=zzzzzzzzzz:1 height=10");
        Script.check(sentence, "<abcdefghij> type:k!ISE insert=1 words=abcdefghij:1");
        Script.check(sentence, "type:#96!IAE type:#123!IAE type:a=1 type:z=2 insert=1 words=az:1");
        Script.check(sentence, "[add_a;add_abcdefghij] run=2 words=a:1,abcdefghij:1");
        Script.check(sentence, "[add_abcdefghijk] run!UOE words=");
        Script.check(sentence, "[add_] run!IAE words=");
    }

    private static void atMostTwentyWords() {
        String sentence = "The dictionary contains at most 20 different words";
        Script.check(sentence, NINETEEN, "wordCount=19 <t> insert=1 wordCount=20 <u> insert!ISE wordCount=20");
        Script.check(sentence, TWENTY, "<aa> insert!ISE nodeCount=20 words=" + TWENTY_AS_READ);
        Script.check(sentence, TWENTY, "<zzzzzzzzzz> insert!ISE nodeCount=20 height=1");
        Script.check(sentence, TWENTY, "<t> insert=2 <a> insert=2 wordCount=20 occurrences=22");
        Script.check(sentence, TWENTY, "<a> remove=0 <u> insert=1 <a> insert!ISE");
        Script.check(sentence, TWENTY, "+a <a> remove=1 <u> insert!ISE");
        Script.check(sentence, TWENTY, "<t> erase=1 wordCount=19 <aa> insert=1 wordCount=20");
        Script.check(sentence, TWENTY, "<u> undo=7 insert=1 <t> insert!ISE");
        Script.check(sentence, TWENTY, "save clear=20 <u> insert=1 restore= <u> insert!ISE");
        Script.check(sentence, NINETEEN, "[add_t;add_t] run=2 wordCount=20 [add_u] run!UOE failedCommand=0");
        Script.check(sentence, NINETEEN, "[add_t;add_u] run!UOE failedCommand=1 wordCount=19");
        Script.check(sentence, TWENTY, "[add_u;erase_a] run!UOE failedCommand=0");
        Script.check(sentence, TWENTY, "[erase_a;add_u] run=2 wordCount=20");
        Script.check(sentence, TWENTY, "[add_a] run=1 wordCount=20");
    }

    private static void countsFromOneTo99() {
        String sentence = "Each contained word has a count from 1 to 99";
        Script.check(sentence, "<a> contains=false count=0 insert=1 <a> contains=true count=1");
        Script.check(sentence, "+a*98 <a> insert=99 <a> insert!ISE count=99 occurrences=99 insertions=99");
        Script.check(sentence, "+a*99 <a> remove=98 <a> insert=99 <a> insert!ISE");
        Script.check(sentence, "+a*99 [add_a] run!UOE failedCommand=0 <a> count=99");
        Script.check(sentence, "+a*98 [add_a] run=1 <a> count=99");
        Script.check(sentence, "+a*98 [add_a;add_a] run!UOE failedCommand=1 <a> count=98");
        Script.check(sentence, "+a*99 [add_a;remove_a] run!UOE failedCommand=0");
        Script.check(sentence, "+a*99 [remove_a;add_a] run=2 <a> count=99");
        Script.check(sentence, "+a*99 <b> insert=1 <aa> insert=1 wordCount=3");
        Script.check(sentence, "+a +a <a> remove=1 <a> contains=true remove=0 <a> contains=false remove!NSE");
    }

    private static void alphabeticalOrder() {
        String sentence = "a word comes before each longer word that begins with it";
        Script.check(sentence, "+ab +abc +a +b +aa",
                "findByRank:0=1 result=a findByRank:1=2 result=aa findByRank:2=2 result=ab",
                "findByRank:3=3 result=abc findByRank:4=1 result=b");
        Script.check(sentence, "+aaaaaaaaaa +aaaaaaaaa findByRank:0=9 findByRank:1=10 isConsistent=true");
        Script.check(sentence, "+z +aaaaaaaaaa findByRank:0=10 findByRank:1=1 result=z");
        Script.check(sentence, "+ba +az findByRank:0=2 result=az findByRank:1=2 result=ba");
    }

    // ---- trie

    private static void oneNodeForEachPrefix() {
        String sentence = "The trie has a root and one node for each different prefix of 1 or more letters";
        Script.check(sentence, nodes(0));
        Script.check(sentence, "+a", nodes(1), "+a", nodes(1), "+ab", nodes(2), "+ac", nodes(3), "+b", nodes(4));
        Script.check(sentence, "+abcdefghij", nodes(10), "+abcde", nodes(10), "+abcdefghik", nodes(11));
        Script.check(sentence, "+abc +bc +c", nodes(6));
        Script.check(sentence, TWENTY, nodes(20));
        Script.check(sentence, twentyLongWords(), nodes(200));
        Script.check(sentence, NINETEEN, "+tbcdefghij", nodes(29), "<tbcdefghij> remove=0", nodes(19));
        Script.check(sentence, staircase(), nodes(19), "+zzzzzzzzzz", nodes(20), "<zzzzzzzzzz> count=1 rank=10",
                "nodeCount=20 erase=1", nodes(19));
    }

    private static void noOtherNodes() {
        String sentence = "the nodes for prefixes that no contained word has are removed";
        Script.check(sentence, "+a <a> remove=0", nodes(0));
        Script.check(sentence, "+a +a <a> remove=1", nodes(1));
        Script.check(sentence, "+abcdefghij <abcdefghij> erase=1", nodes(0));
        Script.check(sentence, "+abc +abd <abd> erase=1", nodes(3), "<abc> erase=1", nodes(0));
        Script.check(sentence, "+ab +abcd <abcd> remove=0", nodes(2));
        Script.check(sentence, "+ab +abcd <ab> remove=0", nodes(4), "<abcd> remove=0", nodes(0));
        Script.check(sentence, "+abc +abd +abe <abd> remove=0", nodes(4), "<abc> remove=0", nodes(3));
        Script.check(sentence, "+abc +b clear=2", nodes(0));
        Script.check(sentence, "+abc [add_bc;erase_abc] run=2", nodes(2), "undo=1", nodes(3));
        Script.check(sentence, "+abc save +abd restore=", nodes(3));
        Script.check(sentence, "[add_abc;erase_x] run!UOE", nodes(0));
        Script.check(sentence, twentyLongWords(), "clear=20", nodes(0));
    }

    private static String nodes(int number) {
        return "nodeCount=" + number + " nodeCountByNeighbours=" + number;
    }

    /** Beside each node of the way to zzzzzzzzzz another one comes first. */
    private static String staircase() {
        StringBuilder words = new StringBuilder();
        for (int depth = 0; depth < 10; depth++) {
            words.append(" +").append("z".repeat(depth)).append('a');
        }
        return words.toString();
    }

    private static String twentyLongWords() {
        StringBuilder words = new StringBuilder();
        for (char letter = 'a'; letter < 'a' + 20; letter++) {
            words.append(" +").append(letter).append("bcdefghij");
        }
        return words.toString();
    }

    // ---- word buffer

    private static void atMostTenCharacters() {
        String sentence = "The word buffer holds at most 10 characters";
        Script.check(sentence, "type:a=1 type:b=2 type:c=3 type:d=4 type:e=5 type:f=6 type:g=7 type:h=8",
                "type:i=9 type:j=10 type:k!ISE type:?!ISE buffer=abcdefghij eraseLast=9 type:k=10 type:l!ISE");
        Script.check(sentence, "<??????????> type:?!ISE type:a!ISE buffer=??????????");
        Script.check(sentence, "<abcdefghij> emptyBuffer= type:a=1");
    }

    private static void lettersAndQuestionMarks() {
        String sentence = "each a letter from 'a' to 'z' or a question mark";
        for (char letter = 'a'; letter <= 'z'; letter++) {
            Script.check(sentence, "type:" + letter + "=1 buffer=" + letter);
        }
        Script.check(sentence, "type:?=1 buffer=?");
        int[] others = {0, 9, 10, 31, 32, 33, 42, 46, 48, 57, 62, 64, 65, 90, 95, 96, 123, 127, 128, 159,
            160, 223, 228, 255, 256 + 'a', 256 + '?', 0x7fff, 0x8000, 0xff41, 0xffff};
        for (int other : others) {
            Script.check(sentence, "type:#" + other + "!IAE buffer=");
        }
    }

    private static void onlyThreeEmptyTheBuffer() {
        String sentence = "They do not change the buffer, except insert, remove and erase, which empty it"
                + " when they succeed";
        Script.check(sentence, "<cat> insert=1 buffer= <cat> insert=2 buffer=");
        Script.check(sentence, "+cat*2 <cat> remove=1 buffer= <cat> remove=0 buffer=");
        Script.check(sentence, "+cat*2 <cat> erase=2 buffer=");
        Script.check(sentence, "+cat*99 <cat> insert!ISE buffer=cat");
        Script.check(sentence, TWENTY, "<cat> insert!ISE buffer=cat");
        Script.check(sentence, "<cat> remove!NSE erase!NSE buffer=cat");
        Script.check(sentence, "<ca?> insert!IAE remove!IAE erase!IAE buffer=ca?");
        String[] others = {"contains=true", "count=2", "wordsWithPrefix=1", "occurrencesWithPrefix=2",
            "continuations=0", "longestPrefix=3", "shortestUniquePrefix=3", "rank=1", "rankByComparing=1",
            "findByRank:1=3", "findByCount:0=3", "findNext=3", "findPrevious=3", "complete=3",
            "countMatches=1", "findMatch=3", "wordsWithin:1=2", "wordsWithinByTrie:1=2", "findNearest=0",
            "distanceToResult=3", "wordCount=3", "occurrences=4", "nodeCount=7", "nodeCountByNeighbours=7",
            "height=3", "insertions=4", "removals=0", "meanLength=3.0", "prefixShare=0.5",
            "isConsistent=true", "resultAt:0=d", "append:a=1", "run!IAE", "errorPosition!NSE",
            "failedCommand!NSE", "save=", "restore!ISE", "undo=3", "clear=3"};
        for (String other : others) {
            Script.check(sentence, "+dog +car +cat*2 findByRank:2 <cat>", other, "buffer=cat");
        }
    }

    private static void questionMarksInQueries() {
        String sentence = "for all other queries it is a character that occurs in no word";
        Script.check(sentence, "+cat +cot*2 <c?t> contains=false count=0 wordsWithPrefix=0",
                "occurrencesWithPrefix=0 continuations=0 longestPrefix=1 shortestUniquePrefix!NSE",
                "rank!IAE rankByComparing!IAE findNext!IAE findPrevious!IAE complete!NSE",
                "wordsWithin:0=0 wordsWithin:1=2 wordsWithinByTrie:0=0 wordsWithinByTrie:1=2",
                "findNearest=1 result=cot distanceToResult=1 prefixShare=0.0");
        Script.check(sentence, "+cat <?> contains=false count=0 wordsWithPrefix=0 occurrencesWithPrefix=0",
                "continuations=0 longestPrefix=0 shortestUniquePrefix!NSE complete!NSE",
                "wordsWithin:2=0 wordsWithin:3=1 wordsWithinByTrie:2=0 wordsWithinByTrie:3=1",
                "findNearest=3 distanceToResult=3 prefixShare=0.0");
        Script.check(sentence, "+cat <cat?> contains=false count=0 wordsWithPrefix=0 occurrencesWithPrefix=0",
                "continuations=0 longestPrefix=3 shortestUniquePrefix!NSE complete!NSE",
                "wordsWithin:0=0 wordsWithin:1=1 findNearest=1 distanceToResult=1 prefixShare=0.0");
        Script.check(sentence, "+a <??????????> wordsWithin:9=0 wordsWithinByTrie:9=0 findNearest=10");
        Script.check("A question mark has a meaning only for countMatches and findMatch",
                "+cat +cot +dog <c?t> countMatches=2 findMatch=3 result=cat <?o?> countMatches=2",
                "findMatch=3 result=cot <???> countMatches=3 <?> countMatches=0 findMatch!NSE");
    }

    // ---- result and edit distance

    private static void result() {
        Script.check("The result is initially empty", "result= resultAt:0!IOOBE distanceToResult=0");
        Script.check("The result is initially empty", "+cat <abcdefghij> distanceToResult=10 result=");
        String sentence = "Some methods store a word as the result, replacing the previous result";
        Script.check(sentence, "+abcdefghij +b findByRank:0=10 result=abcdefghij findByRank:1=1 result=b",
                "resultAt:1!IOOBE findByRank:0=10 result=abcdefghij");
        Script.check(sentence, "+a +bb*2 +c findByCount:0=2 result=bb <b> findPrevious=1 result=a",
                "findNext=2 result=bb <c> complete=1 result=c <??> findMatch=2 result=bb",
                "<d> findNearest=1 result=a");
        Script.check(sentence, "+cat findByRank:0=3 <cat> erase=1 result=cat clear=0 result=cat undo=2 result=cat");
    }

    private static void editDistance() {
        String sentence = "the smallest number of insertions, deletions and replacements";
        String[][] rows = {
            {"abcd", "abcd", "0"}, {"abcd", "", "4"}, {"abcd", "bcd", "1"}, {"abcd", "acd", "1"},
            {"abcd", "abc", "1"}, {"abcd", "xabcd", "1"}, {"abcd", "abxcd", "1"}, {"abcd", "abcdx", "1"},
            {"abcd", "xbcd", "1"}, {"abcd", "abxd", "1"}, {"abcd", "abcx", "1"}, {"abcd", "bacd", "2"},
            {"abcd", "dcba", "4"}, {"abcd", "cdab", "4"}, {"abcd", "wxyz", "4"}, {"a", "a", "0"},
            {"a", "b", "1"}, {"a", "", "1"}, {"a", "bbbbbbbbbb", "10"}, {"a", "bbbbbbbbba", "9"},
            {"abcdefghij", "", "10"}, {"abcdefghij", "bcdefghijk", "2"}, {"abcdefghij", "klmnopqrst", "10"},
            {"abcdefghij", "abcdefghij", "0"}, {"abcdefghij", "a", "9"}, {"abcdefghij", "jihgfedcba", "10"},
            {"sunday", "saturday", "3"}, {"aaaaa", "aaaaaaaaaa", "5"},
        };
        for (String[] row : rows) {
            Script.check(sentence, "+" + row[0], "findByRank:0 <" + row[1] + ">", "distanceToResult=" + row[2],
                    "findNearest=" + row[2], within(Integer.parseInt(row[2])));
        }
    }

    /** The limit at which the only word comes in, and the one before. */
    private static String within(int distance) {
        StringBuilder steps = new StringBuilder();
        for (String call : new String[] {"wordsWithin:", "wordsWithinByTrie:"}) {
            steps.append(distance <= 9 ? call + distance + "=1 " : "");
            steps.append(distance > 0 ? call + (distance - 1) + "=0 " : "");
        }
        return steps.toString();
    }

    // ---- programs

    private static void atMostSixtyCharacters() {
        String sentence = "The program buffer holds at most 60 characters";
        String nine = "add_a;".repeat(9);
        Script.check(sentence, "[" + nine + "add_a] append:b=60 append:c!ISE append:;!ISE run=10 words=a:9,ab:1");
        Script.check(sentence, "[" + nine + "add_a] run=10 words=a:10");
        Script.check(sentence, "[" + nine + "add_a] append:;=60 append:a!ISE run!IAE errorPosition=60");
        Script.check(sentence, "[add_" + "a".repeat(56) + "] append:a!ISE run!UOE failedCommand=0");
        Script.check(sentence, "[" + "x".repeat(60) + "] append:#0!ISE run!IAE errorPosition=0 append:a=1");
    }

    private static void grammar() {
        String sentence = "program = command { \";\" command }";
        Script.check(sentence, "[] run!IAE errorPosition=0");
        Script.check(sentence, "[add_a] run=1 words=a:1");
        Script.check(sentence, "[add_a;add_b] run=2 words=a:1,b:1");
        Script.check(sentence, "[;add_a] run!IAE errorPosition=0");
        Script.check(sentence, "[add_a;;add_b] run!IAE errorPosition=6");
        Script.check(sentence, "[add_a;] run!IAE errorPosition=6");
        Script.check(sentence, "[add_a,add_b] run!IAE errorPosition=5");
        sentence = "command = ( \"add \" | \"remove \" | \"erase \" ) letter { letter }";
        Script.check(sentence, "+a*2 [remove_a] run=1 words=a:1");
        Script.check(sentence, "+a*2 [erase_a] run=1 words=");
        String[] others = {"insert", "clear", "undo", "save", "restore", "run", "type", "Add", "ADD", "_add"};
        for (String other : others) {
            Script.check(sentence, "+a [" + other + "_a] run!IAE");
        }
        Script.check(sentence, "[adda] run!IAE errorPosition=3 [removea] run!IAE errorPosition=6",
                "[erasea] run!IAE errorPosition=5 [add__a] run!IAE errorPosition=4",
                "[add_a_] run!IAE errorPosition=5 [add_a_;add_b] run!IAE errorPosition=5");
        sentence = "letter = \"a\" | \"b\" | ... | \"z\"";
        for (char letter = 'a'; letter <= 'z'; letter++) {
            Script.check(sentence, "[add_" + letter + "] run=1 words=" + letter + ":1");
            Script.check(sentence, "[add_q" + letter + "q] run=1 words=q" + letter + "q:1");
        }
        Script.check(sentence, "[add_abcdefghijklmnopqrstuvwxyz] run!UOE failedCommand=0 errorPosition!NSE");
    }

    private static void commandsDoTheSame() {
        String sentence = "The commands do the same with the given word as insert, remove and erase do"
                + " with the buffer word";
        Script.check(sentence, "<xy> [add_a;add_a;add_b] run=3 words=a:2,b:1 insertions=3 removals=0 buffer=xy");
        Script.check(sentence, "+a*3 [remove_a] run=1 words=a:2 removals=1 [remove_a;remove_a] run=2 words=",
                "removals=3 nodeCount=0");
        Script.check(sentence, "+a*3 +ab [erase_a] run=1 words=ab:1 removals=3 insertions=4 nodeCount=2");
    }

    private static void commandsThatFail() {
        String sentence = "A command fails if its word is longer than 10 letters";
        String ten = "abcdefghij";
        Script.check(sentence, "[add_" + ten + "] run=1 [add_" + ten + "k] run!UOE failedCommand=0",
                "words=" + ten + ":1");
        Script.check(sentence, "+" + ten, "[remove_" + ten + "k] run!UOE failedCommand=0 words=" + ten + ":1",
                "[remove_" + ten + "] run=1 words=");
        Script.check(sentence, "+" + ten, "[erase_" + ten + "k] run!UOE failedCommand=0 words=" + ten + ":1",
                "[erase_" + ten + "] run=1 words=");
        Script.check(sentence, "[add_b;add_" + ten + "k;add_c] run!UOE failedCommand=1 words=");
        Script.check(sentence, "[add_" + ten + "k;add_b] run!UOE failedCommand=0 words=");
        sentence = "or if its method would throw an exception for the word";
        Script.check(sentence, "+a*99 [add_b;add_a] run!UOE failedCommand=1 words=a:99");
        Script.check(sentence, TWENTY, "[add_a;add_u] run!UOE failedCommand=1 words=" + TWENTY_AS_READ);
        Script.check(sentence, "+ab [remove_a] run!UOE failedCommand=0 [remove_abc] run!UOE failedCommand=0",
                "[erase_a] run!UOE failedCommand=0 [erase_abc] run!UOE failedCommand=0 words=ab:1");
        Script.check(sentence, "[remove_a] run!UOE failedCommand=0 [add_a;erase_a;erase_a] run!UOE failedCommand=2");
        Script.check(sentence, "[add_a;remove_a;remove_a] run!UOE failedCommand=2 words=");
    }

    private static void errorPositionOfPrefixes() {
        String sentence = "or the length of the text if the text is a proper prefix of a program";
        String text = "remove_ab;erase_c;add_d";
        for (int length = 0; length <= text.length(); length++) {
            String prefix = text.substring(0, length);
            boolean isProgram = length == 8 || length == 9 || length == 17 || length == 23;
            int commands = prefix.split(";").length;
            Script.check(sentence, "+a +ab +c [" + prefix + "]", isProgram
                    ? "run=" + commands + " errorPosition!NSE" : "run!IAE errorPosition=" + length);
        }
        Script.check(sentence, "[add_" + "a".repeat(49) + ";remove] run!IAE errorPosition=60");
        Script.check(sentence, "[add_" + "a".repeat(55) + ";] run!IAE errorPosition=60");
        Script.check(sentence, "[add_a;add_" + "a".repeat(40) + ";remove_] run!IAE errorPosition=58");
    }

    /** At each index the neighbours of the characters that are allowed there. */
    private static void errorPositionOfWrongCharacters() {
        String sentence = "the index of the first character that cannot continue any program";
        String text = "remove_ab;erase_c;add_d";
        for (int index = 0; index < text.length(); index++) {
            for (int wrongOne : wrongCharactersAt(text, index)) {
                Script.check(sentence, "[" + text.substring(0, index) + "]", "append:#" + wrongOne,
                        "[" + text.substring(index) + "]", "run!IAE errorPosition=" + index);
            }
        }
        Script.check(sentence, "append:#0 run!IAE errorPosition=0");
        Script.check(sentence, "append:#65535 run!IAE errorPosition=0");
        Script.check(sentence, "[add_] append:#353 run!IAE errorPosition=4");
        Script.check(sentence, "[add_a] append:#315 run!IAE errorPosition=5");
        Script.check(sentence, "[" + "add_a;".repeat(9) + "add_a!] run!IAE errorPosition=59");
        Script.check(sentence, "[" + "add_a;".repeat(9) + "add_;!] run!IAE errorPosition=58");
        Script.check(sentence, "[x!y!] run!IAE errorPosition=0 [add_A;add] run!IAE errorPosition=4");
    }

    private static int[] wrongCharactersAt(String text, int index) {
        boolean afterLetter = index == 8 || index == 9 || index == 17;
        boolean firstLetter = index == 7 || index == 16 || index == 22;
        boolean firstOfCommand = index == 0 || index == 10 || index == 18;
        if (afterLetter) {
            return new int[] {' ', ':', '<', '`', '{', '?', 'A', 0};
        }
        if (firstLetter) {
            return new int[] {' ', ';', '`', '{', '?', 'A', 0};
        }
        if (firstOfCommand) {
            return new int[] {' ', ';', '`', 'b', 'd', 'f', 'q', 's', 'A', 0};
        }
        char allowed = text.charAt(index) == '_' ? ' ' : text.charAt(index);
        return new int[] {allowed - 1, allowed + 1, ';', 0};
    }

    // ---- undo

    private static void successfulCallsCanBeUndone() {
        String sentence = "The changing methods are insert, remove, erase, clear and run. Each successful"
                + " call of them can be undone";
        Script.check(sentence, "<a> insert=1 undos=1 undo=0 words= insertions=0");
        Script.check(sentence, "+a*2 <a> remove=1 undos=3 undo=2 words=a:2 removals=0");
        Script.check(sentence, "+a*2 <a> erase=2 undos=3 undo=2 words=a:2 removals=0");
        Script.check(sentence, "+a*2 clear=1 undos=3 undo=2 words=a:2 removals=0");
        Script.check(sentence, "[add_a;add_b] run=2 undos=1 undo=0 words= insertions=0");
        Script.check(sentence, "clear=0 undos=1 undo=0 undo!ISE");
        Script.check(sentence, "[add_a;erase_a] run=2 undos=1 words= insertions=1 undo=0 insertions=0");
        Script.check(sentence, "+a <> insert!IAE remove!IAE erase!IAE <b> remove!NSE erase!NSE undos=1");
        Script.check(sentence, "+a*99 <a> insert!ISE undos=8 undo=7 count=98");
        Script.check(sentence, "+a [x] run!IAE [erase_b] run!UOE undos=1 undo=0 words=");
        Script.check(sentence, "+a <xyz> eraseLast=2 findByRank:0=1 append:a=1 save= undos=1 undo=0 words=");
    }

    private static void atMostEightMostRecent() {
        String sentence = "at most the 8 most recent ones, the most recent one first";
        Script.check(sentence, "undos=0 undo!ISE");
        Script.check(sentence, "+a +b +c +d +e +f +g undos=7 +h undos=8 undo=7 undo=6 undo=5 undo=4 undo=3",
                "undo=2 undo=1 undo=0 words= undo!ISE");
        Script.check(sentence, "+a +b +c +d +e +f +g +h +i undos=8 undo=7 words=a:1,b:1,c:1,d:1,e:1,f:1,g:1,h:1",
                "undo=6 undo=5 undo=4 undo=3 undo=2 undo=1 words=a:1,b:1 undo=0 words=a:1 undo!ISE words=a:1");
        Script.check(sentence, "+a*30 undos=8 undo undo undo undo undo undo undo undo undo!ISE words=a:22");
        Script.check(sentence, "+a +b*2 <b> remove=1 <a> erase=1 [add_c;add_c] run=2 clear=2 undo=6",
                "words=b:1,c:2 undo=5 words=b:1 undo=4 words=a:1,b:1 undo=3 words=a:1,b:2",
                "undo=2 words=a:1,b:1 undo=1 words=a:1 undo=0 words= undo!ISE");
        Script.check(sentence, "+a +b +c +d +e +f +g +h undo=7 +i undos=8 +j undos=8 undo undo undo undo undo",
                "undo undo undo=0 words=a:1 undo!ISE");
        Script.check(sentence, "+a +b undo=1 +c undo=1 undo=0 words= undo!ISE");
    }

    private static void undoSaveAndRestoreConcernOnlyWords() {
        String sentence = "Undo, save and restore concern only the contained words with their counts and"
                + " the numbers of insertions and removals";
        String busy = "+ab save= <ab> erase=1 +cd*2 findByRank:0=2 [erase_x] run!UOE [y] run!IAE [add_] <xy>";
        Script.check(sentence, busy, "undo=3 result=cd buffer=xy program=4 errorPosition=0 failedCommand=0",
                "words=cd:1 saved=ab:1 insertions=2 removals=1");
        Script.check(sentence, busy, "restore= result=cd buffer=xy program=4 errorPosition=0 failedCommand=0",
                "words=ab:1 saved=ab:1 insertions=1 removals=0");
        Script.check(sentence, busy, "save= result=cd buffer=xy program=4 errorPosition=0 failedCommand=0",
                "words=cd:2 saved=cd:2 insertions=3 removals=1");
        Script.check(sentence, "+a save= <b> insert=1 undo=1 undo=0 words= saved=a:1 restore= words=a:1",
                "insertions=1");
    }

    // ---- exceptions

    /** Script looks at this for each call that throws; here with every part of the object in use. */
    private static void nothingChanges() {
        String sentence = "If a call throws an exception, nothing changes";
        String busy = "+dog +cat*2 +car save= <dog> erase=1 findByRank:1=3 [erase_x] run!UOE [y] run!IAE [add_] <ca>";
        String[] calls = {"type:A!IAE", "remove!NSE", "erase!NSE", "shortestUniquePrefix!NSE",
            "findByRank:2!NSE", "findByCount:2!NSE", "findPrevious!NSE", "findMatch!NSE",
            "wordsWithin:10!IAE", "wordsWithinByTrie:10!IAE", "resultAt:3!IOOBE", "run!IAE"};
        for (String call : calls) {
            Script.check(sentence, busy, call);
        }
        String[][] withBuffer = {{"", "eraseLast!ISE"}, {"", "insert!IAE"}, {"", "remove!IAE"},
            {"", "erase!IAE"}, {"?", "insert!IAE"}, {"?", "remove!IAE"}, {"?", "erase!IAE"}, {"?", "rank!IAE"},
            {"?", "rankByComparing!IAE"}, {"?", "findNext!IAE"}, {"?", "findPrevious!IAE"},
            {"z", "findNext!NSE"}, {"z", "complete!NSE"}, {"abcdefghij", "type:k!ISE"}};
        for (String[] row : withBuffer) {
            Script.check(sentence, busy, "<" + row[0] + ">", row[1]);
        }
        Script.check(sentence, busy, "clear=2 meanLength!AE prefixShare!AE findNearest!NSE");
        Script.check(sentence, busy, "restore= undo!ISE");
        Script.check(sentence, "+a findByRank:0=1 <b> restore!ISE undo=0");
        sentence = "except that run empties the program buffer and stores the error position or the failed command";
        Script.check(sentence, "+a [add_b;erase_c] run!UOE program=0 failedCommand=1 errorPosition!NSE words=a:1");
        Script.check(sentence, "+a [add_b;erase] run!IAE program=0 errorPosition=11 failedCommand!NSE words=a:1");
    }

    private static void theFirstExceptionIsThrown() {
        String sentence = "If several conditions of a method apply, the exception that is listed first is thrown";
        Script.check(sentence, "<abcdefghij> type:A!IAE type:a!ISE");
        Script.check(sentence, TWENTY, "<> insert!IAE <u?> insert!IAE <u> insert!ISE");
        Script.check(sentence, "+a*99 <?> insert!IAE <a?> insert!IAE <a> insert!ISE");
        Script.check(sentence, "<> remove!IAE <?> remove!IAE <a> remove!NSE");
        Script.check(sentence, "<> erase!IAE <?> erase!IAE <a> erase!NSE");
        Script.check(sentence, "<?> findNext!IAE findPrevious!IAE <a> findNext!NSE findPrevious!NSE");
        Script.check(sentence, "+b <z?> findNext!IAE <a?> findPrevious!IAE <z> findNext!NSE <a> findPrevious!NSE");
        Script.check(sentence, "[erase_a;] run!IAE failedCommand!NSE [erase_a] run!UOE failedCommand=0");
        Script.check(sentence, "[add_abcdefghijk!] run!IAE errorPosition=15 failedCommand!NSE");
    }

    public static void main(String[] args) {
        wordsHaveOneToTenLetters();
        atMostTwentyWords();
        countsFromOneTo99();
        alphabeticalOrder();
        oneNodeForEachPrefix();
        noOtherNodes();
        atMostTenCharacters();
        lettersAndQuestionMarks();
        onlyThreeEmptyTheBuffer();
        questionMarksInQueries();
        result();
        editDistance();
        atMostSixtyCharacters();
        grammar();
        commandsDoTheSame();
        commandsThatFail();
        errorPositionOfPrefixes();
        errorPositionOfWrongCharacters();
        successfulCallsCanBeUndone();
        atMostEightMostRecent();
        undoSaveAndRestoreConcernOnlyWords();
        nothingChanges();
        theFirstExceptionIsThrown();
        Script.finish();
    }
}
