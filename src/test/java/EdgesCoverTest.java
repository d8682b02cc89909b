import java.io.IOException;
import java.lang.reflect.Method;
import java.nio.file.DirectoryStream;
import java.nio.file.Files;
import java.nio.file.Path;
import java.util.Set;
import java.util.TreeSet;

/** That each promise has tests of its boundary cases, and that no such test is left out. */
public final class EdgesCoverTest {
    public static void main(String[] args) throws IOException, ClassNotFoundException {
        Check check = new Check();
        int[] tests = new int[57];
        Set<String> names = new TreeSet<>();
        try (DirectoryStream<Path> files = Files.newDirectoryStream(Path.of("src/test/java"), "Edges*Test.java")) {
            for (Path file : files) {
                Class<?> c = Class.forName(file.getFileName().toString().replace(".java", ""));
                for (Method m : Edges.testsOf(c)) {
                    int promise = Integer.parseInt(m.getName().substring(7, 9));
                    check.due(m.getName() + " is of a promise", promise >= 1 && promise <= 56, true);
                    check.due(m.getName() + " is there once", names.add(m.getName()), true);
                    tests[Math.min(promise, 56)]++;
                }
                String text = Files.readString(file);
                int written = text.split("static void promise", -1).length - 1;
                check.due("tests of " + c.getName(), Edges.testsOf(c).size(), written > 0 && c != EdgesCoverTest.class
                        ? written : 0);
            }
        }
        for (int promise = 1; promise <= 56; promise++) {
            check.due("promise " + promise + " has tests", tests[promise] > 0, true);
        }
        check.end();
    }
}
