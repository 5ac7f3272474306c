import java.io.IOException;
import java.nio.file.Files;
import java.nio.file.Path;
import java.util.Set;
import java.util.TreeSet;
import java.util.regex.Matcher;
import java.util.regex.Pattern;

/**
 * The class names no class of the library but those of LANGUAGE.md's rules 4 and 6, with one exception that
 * promise 4 asks for by name: NumberFormatException, behind "throws" of unrank and in its one throw statement.
 */
public final class LibraryNamesTest {

    private static final Path SOURCE = Path.of("src/main/java/PartitionCabinet.java");
    private static final Set<String> LISTED = Set.of("String", "StringBuilder", "Integer", "Long", "Math", "ArrayList", "List",
            "Iterator", "Iterable", "Comparable", "System", "Arrays",
            "IllegalStateException", "IllegalArgumentException", "IndexOutOfBoundsException", "ArithmeticException",
            "UnsupportedOperationException", "NoSuchElementException", "RuntimeException");
    private static final Set<String> LISTED_IMPORTS = Set.of("java.util.NoSuchElementException");
    private static final String PROMISED = "NumberFormatException";

    private static int passed = 0;
    private static int failed = 0;

    public static void main(String[] args) throws IOException {
        String code = withoutCommentsAndTexts(Files.readString(SOURCE));
        TreeSet<String> names = namesOfClasses(code);
        Set<String> own = ownClasses();
        for (String name : names) {
            check(name + " is listed, or a class of the file's own", LISTED.contains(name) || own.contains(name) || name.equals(PROMISED));
        }
        checkImports(code);
        checkPromised(code);
        System.out.println("LibraryNamesTest: " + passed + " passed, " + failed + " failed");
        if (failed > 0) {
            System.exit(1);
        }
    }

    private static void check(String what, boolean holds) {
        if (holds) {
            passed++;
        } else {
            failed++;
            System.out.println("not so: " + what);
        }
    }

    private static String withoutCommentsAndTexts(String source) {
        return source.replaceAll("(?s)/\\*.*?\\*/", " ").replaceAll("\"[^\"\\n]*\"", "\"\"").replaceAll("//[^\\n]*", " ");
    }

    /** The words that begin with a great letter and have a small one: constants have none. */
    private static TreeSet<String> namesOfClasses(String code) {
        TreeSet<String> names = new TreeSet<>();
        Matcher matcher = Pattern.compile("\\b[A-Z]\\w*[a-z]\\w*\\b").matcher(code);
        while (matcher.find()) {
            names.add(matcher.group());
        }
        return names;
    }

    private static Set<String> ownClasses() {
        Set<String> own = new TreeSet<>();
        own.add(PartitionCabinet.class.getSimpleName());
        for (Class<?> inside : PartitionCabinet.class.getDeclaredClasses()) {
            own.add(inside.getSimpleName());
            check("no exception class of its own: " + inside, !Throwable.class.isAssignableFrom(inside));
        }
        return own;
    }

    private static void checkImports(String code) {
        Matcher matcher = Pattern.compile("\\bimport\\s+([^;]+);").matcher(code);
        while (matcher.find()) {
            check("import of " + matcher.group(1), LISTED_IMPORTS.contains(matcher.group(1)));
        }
        check("no class by its whole name", !code.replaceAll("\\bimport\\s+[^;]+;", "").matches("(?s).*\\bjava[x]?\\.\\w.*"));
    }

    private static void checkPromised(String code) {
        int start = code.indexOf("public int unrank(");
        int end = code.indexOf("public int draw(");
        check("unrank stands ahead of draw", start >= 0 && end > start);
        check("it is named twice in all", times(code) == 2);
        check("both times in unrank", start >= 0 && end > start && times(code.substring(start, end)) == 2);
    }

    private static int times(String code) {
        return code.split("\\b" + PROMISED + "\\b", -1).length - 1;
    }
}
