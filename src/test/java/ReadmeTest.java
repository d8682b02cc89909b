import java.io.IOException;
import java.nio.file.Files;
import java.nio.file.Path;
import java.util.ArrayList;
import java.util.List;
import java.util.regex.Matcher;
import java.util.regex.Pattern;

/** That README.md's example does what it says, that it tells of each call once, and of each file with tests. */
public final class ReadmeTest {
    private static final Check CHECK = new Check();

    private static void example() {
        // example begins
        OtherTown x = new OtherTown();
        String text = "towns vow 1 month 2 wide 1 turn 2"
                + ";house ash left beds 1;house elm right beds 1;house oak right beds 1"
                + ";person ann plain of ash walks 3 kin 1;person bob snorer of ash walks 1 kin 2"
                + ";person cat light of elm walks 2 kin 1"
                + ";wants ann oak 5;keeps ash 5 1 7 2;ill 0;shoe bob elm";
        for (int i = 0; i < text.length(); i += 20) {
            int[] five = new int[5];
            for (int k = 0; k < 20; k++) {
                five[k / 4] = five[k / 4] << 8 | (i + k < text.length() ? text.charAt(i + k) : ' ');
            }
            x.feed(five[0], five[1], five[2], five[3], five[4]);
        }
        int people = x.towns(text.length());    // 3; OtherTown.NONE: x.fault() is at x.where()
        int rows = x.rows(0);                   // 7 ways for ann and bob to lie in elm, in oak, or in the church
        int left = x.laysBest(0);               // 0 of the left are in the church
        int right = x.laysBest(1);              // 0 of the right
        int bed = x.bed(0);                     // 2: ann lies in oak's bed (0 is ash's, 1 elm's)
        int minutes = x.crossed();              // 8 till all three are over the bridge: 3, 1, a turn of 2, 2
        int night = x.night();                  // 1: the first night was slept
        int wrong = x.wrong(0);                 // 3: ann slept in that bed in one of the last two nights
        int known = x.knows(1);                 // 7: bob knows of ash, elm and, from ann at home, oak
        int peaceIn = x.peaceIn();              // 0: each has kept the vow of one house
        int surely = x.surely(1);               // 1: by the clues bob slept in elm
        boolean laid = x.lays(0, 2);            // false ..
        int why = x.trouble();                  // .. 5: she is there
        boolean undone = x.undo();              // true: as it was ahead of the night
        // example ends
        CHECK.due("people", people, 3);
        CHECK.due("rows", rows, 7);
        CHECK.due("left", left, 0);
        CHECK.due("right", right, 0);
        CHECK.due("bed", bed, 2);
        CHECK.due("minutes", minutes, 8);
        CHECK.due("night", night, 1);
        CHECK.due("wrong", wrong, 3);
        CHECK.due("known", known, 7);
        CHECK.due("peaceIn", peaceIn, 0);
        CHECK.due("surely", surely, 1);
        CHECK.due("laid", laid, false);
        CHECK.due("why", why, 5);
        CHECK.due("undone", undone, true);
        CHECK.due("nights behind it", x.size(9), 0);
    }

    private static String cut(String from, String pattern) {
        Matcher m = Pattern.compile("(?s)" + pattern).matcher(from);
        return m.find() ? m.group(1).stripIndent().strip() : "not found: " + pattern;
    }

    private static void sameExample(String readme) throws IOException {
        String source = Files.readString(Path.of("src/test/java/ReadmeTest.java"));
        CHECK.due("the example", cut(readme, "```java\n(.*?)```"),
                cut(source, "// example begins\n(.*?)\n *// example ends"));
    }

    /** Calls stand in a table, each as its name with brackets; tests as the names of their files. */
    private static void tellsOfAll(String readme) throws IOException {
        String table = cut(readme, "\n(\\| calls.*?)\n\n");
        List<String> told = new ArrayList<>();
        Matcher call = Pattern.compile("`(\\w+)\\(").matcher(table);
        while (call.find()) {
            told.add(call.group(1));
        }
        int calls = 0;
        for (java.lang.reflect.Method m : OtherTown.class.getDeclaredMethods()) {
            if (java.lang.reflect.Modifier.isPublic(m.getModifiers())) {
                calls++;
                CHECK.due(m.getName() + " stands in the table", told.contains(m.getName()), true);
            }
        }
        CHECK.due("calls in the table", told.size(), calls);
        try (var files = Files.list(Path.of("src/test/java"))) {
            for (Path file : files.toList()) {
                String name = file.getFileName().toString().replace(".java", "");
                CHECK.due(name + " is told of", readme.contains("`" + name + "`"), true);
            }
        }
    }

    public static void main(String[] args) throws IOException {
        String readme = Files.readString(Path.of("README.md"));
        example();
        sameExample(readme);
        tellsOfAll(readme);
        CHECK.end();
    }
}
