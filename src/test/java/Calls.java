/** The calls of the face by their names, and their answers as texts. Not a test of its own. */
final class Calls {
    private Calls() {
    }

    /** An exception is told as throws. and its name; a call without an answer answers "". */
    static String answer(WordTrie x, String call, int argument) {
        try {
            return String.valueOf(make(x, call, argument));
        } catch (RuntimeException e) {
            return "throws." + e.getClass().getSimpleName();
        }
    }

    private static Object make(WordTrie x, String call, int argument) {
        switch (call) {
            case "type": return x.type((char) argument);
            case "eraseLast": return x.eraseLast();
            case "emptyBuffer": x.emptyBuffer(); return "";
            case "insert": return x.insert();
            case "remove": return x.remove();
            case "erase": return x.erase();
            case "clear": return x.clear();
            case "contains": return x.contains();
            case "count": return x.count();
            case "wordsWithPrefix": return x.wordsWithPrefix();
            case "occurrencesWithPrefix": return x.occurrencesWithPrefix();
            case "continuations": return x.continuations();
            case "longestPrefix": return x.longestPrefix();
            case "shortestUniquePrefix": return x.shortestUniquePrefix();
            case "rank": return x.rank();
            case "rankByComparing": return x.rankByComparing();
            case "findByRank": return x.findByRank(argument);
            case "findByCount": return x.findByCount(argument);
            case "findNext": return x.findNext();
            case "findPrevious": return x.findPrevious();
            case "complete": return x.complete();
            case "countMatches": return x.countMatches();
            case "findMatch": return x.findMatch();
            case "wordsWithin": return x.wordsWithin(argument);
            case "wordsWithinByTrie": return x.wordsWithinByTrie(argument);
            case "findNearest": return x.findNearest();
            case "distanceToResult": return x.distanceToResult();
            case "wordCount": return x.wordCount();
            case "occurrences": return x.occurrences();
            case "nodeCount": return x.nodeCount();
            case "nodeCountByNeighbours": return x.nodeCountByNeighbours();
            case "height": return x.height();
            case "insertions": return x.insertions();
            case "removals": return x.removals();
            case "meanLength": return x.meanLength();
            case "prefixShare": return x.prefixShare();
            case "isConsistent": return x.isConsistent();
            case "append": return x.append((char) argument);
            case "run": return x.run();
            case "errorPosition": return x.errorPosition();
            case "failedCommand": return x.failedCommand();
            case "resultAt": return x.resultAt(argument);
            case "undo": return x.undo();
            case "save": x.save(); return "";
            case "restore": x.restore(); return "";
            default: throw new AssertionError(call);
        }
    }
}
