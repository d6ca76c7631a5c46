import java.nio.file.Files;
import java.nio.file.Path;
import java.util.regex.Matcher;
import java.util.regex.Pattern;

/** BOUNDS.md, which tells the test of each bound, names methods that are there and that their tests call. */
public final class BoundsListTest {
    private static final Path TESTS = Path.of("src/test/java");

    public static void main(String[] args) throws Exception {
        String list = Files.readString(Path.of("src/test/BOUNDS.md"));
        Matcher named = Pattern.compile("`(\\w+Test)\\.(\\w+)`").matcher(list);
        int many = 0;
        while (named.find()) {
            many++;
            isCalled(named.group(1), named.group(2));
        }
        Due.holds("many are named", many > 100);
        everyBoundsMethodIsNamed(list);
        Due.end();
    }

    private static String source(String test) throws Exception {
        Path file = TESTS.resolve(test + ".java");
        return Files.exists(file) ? Files.readString(file) : "";
    }

    private static void isCalled(String test, String method) throws Exception {
        String source = source(test);
        Due.holds(test + "." + method + " is there", source.contains("private static void " + method + "("));
        Due.holds(test + "." + method + " is called", Pattern.compile("        " + method + "\\(.*\\);").matcher(source).find());
    }

    /** What a test of bounds calls in its main method is on the list. */
    private static void everyBoundsMethodIsNamed(String list) throws Exception {
        for (String test : new String[] {"Ring", "Law", "Thought", "Music", "Field", "Changes", "Shelves"}) {
            String source = source(test + "BoundsTest");
            String main = source.substring(source.indexOf("void main("), source.indexOf("Due.end()"));
            Matcher called = Pattern.compile("        (\\w+)\\(\\);").matcher(main);
            while (called.find()) {
                String name = test + "BoundsTest." + called.group(1);
                Due.holds(name + " is on the list", list.contains("`" + name + "`"));
            }
        }
    }
}
