import java.lang.reflect.Constructor;
import java.lang.reflect.Field;
import java.lang.reflect.Method;
import java.lang.reflect.Modifier;
import java.util.Set;
import java.util.TreeSet;

/** The public face of WordTrie is the document's, and nothing else can be seen from outside. */
public final class WordTrieFaceTest {
    private static final String[] FACE = {
        "int type(char) throws IllegalArgumentException, IllegalStateException",
        "int eraseLast() throws IllegalStateException",
        "void emptyBuffer()",
        "int insert() throws IllegalArgumentException, IllegalStateException",
        "int remove() throws IllegalArgumentException, NoSuchElementException",
        "int erase() throws IllegalArgumentException, NoSuchElementException",
        "int clear()",
        "boolean contains()",
        "int count()",
        "int wordsWithPrefix()",
        "int occurrencesWithPrefix()",
        "int continuations()",
        "int longestPrefix()",
        "int shortestUniquePrefix() throws NoSuchElementException",
        "int rank() throws IllegalArgumentException",
        "int rankByComparing() throws IllegalArgumentException",
        "int findByRank(int) throws NoSuchElementException",
        "int findByCount(int) throws NoSuchElementException",
        "int findNext() throws IllegalArgumentException, NoSuchElementException",
        "int findPrevious() throws IllegalArgumentException, NoSuchElementException",
        "int complete() throws NoSuchElementException",
        "int countMatches()",
        "int findMatch() throws NoSuchElementException",
        "int wordsWithin(int) throws IllegalArgumentException",
        "int wordsWithinByTrie(int) throws IllegalArgumentException",
        "int findNearest() throws NoSuchElementException",
        "int distanceToResult()",
        "int wordCount()",
        "int occurrences()",
        "int nodeCount()",
        "int nodeCountByNeighbours()",
        "int height()",
        "long insertions()",
        "long removals()",
        "double meanLength() throws ArithmeticException",
        "float prefixShare() throws ArithmeticException",
        "boolean isConsistent()",
        "int append(char) throws IllegalStateException",
        "int run() throws IllegalArgumentException, UnsupportedOperationException",
        "int errorPosition() throws NoSuchElementException",
        "int failedCommand() throws NoSuchElementException",
        "char resultAt(int) throws IndexOutOfBoundsException",
        "int undo() throws IllegalStateException",
        "void save()",
        "void restore() throws IllegalStateException",
    };

    private static int wrong = 0;

    private static void check(boolean holds, String what) {
        if (!holds) {
            wrong++;
            System.out.println("face: " + what);
        }
    }

    private static String names(Class<?>[] types) {
        StringBuilder names = new StringBuilder();
        for (Class<?> type : types) {
            names.append(names.length() == 0 ? "" : ", ").append(type.getSimpleName());
        }
        return names.toString();
    }

    private static String signature(Method method) {
        String thrown = names(method.getExceptionTypes());
        return method.getReturnType().getSimpleName() + " " + method.getName()
                + "(" + names(method.getParameterTypes()) + ")"
                + (thrown.isEmpty() ? "" : " throws " + thrown);
    }

    public static void main(String[] args) {
        Class<?> face = WordTrie.class;
        check(Modifier.isPublic(face.getModifiers()) && Modifier.isFinal(face.getModifiers()),
                "the class is public and final");
        Set<String> seen = new TreeSet<>();
        Set<String> publicNames = new TreeSet<>();
        for (Method method : face.getDeclaredMethods()) {
            if (Modifier.isPrivate(method.getModifiers())) {
                continue;
            }
            seen.add(signature(method));
            publicNames.add(method.getName());
            check(method.getModifiers() == Modifier.PUBLIC, method.getName() + " is public and no more");
        }
        check(seen.equals(new TreeSet<>(Set.of(FACE))), "the methods are " + seen);
        for (Method method : face.getDeclaredMethods()) {
            check(!Modifier.isPrivate(method.getModifiers()) || !publicNames.contains(method.getName()),
                    method.getName() + " names a public and a private method");
        }
        Constructor<?>[] constructors = face.getDeclaredConstructors();
        check(constructors.length == 1 && Modifier.isPublic(constructors[0].getModifiers())
                && constructors[0].getParameterCount() == 0, "there is one public constructor");
        for (Field field : face.getDeclaredFields()) {
            check(Modifier.isPrivate(field.getModifiers()), "field " + field.getName() + " is private");
            check(!Modifier.isStatic(field.getModifiers()) || Modifier.isFinal(field.getModifiers()),
                    "static field " + field.getName() + " is final");
        }
        for (Class<?> inside : face.getDeclaredClasses()) {
            check((inside.getModifiers() & (Modifier.PUBLIC | Modifier.PROTECTED)) == 0
                    && Modifier.isStatic(inside.getModifiers()), inside.getName() + " is static and not public");
        }
        System.out.println(wrong == 0 ? "the face is as the document says" : wrong + " faults in the face");
        System.exit(wrong == 0 ? 0 : 1);
    }
}
