import java.io.IOException;
import java.lang.reflect.Constructor;
import java.lang.reflect.Executable;
import java.lang.reflect.Field;
import java.lang.reflect.Method;
import java.lang.reflect.Modifier;
import java.nio.file.Files;
import java.nio.file.Path;
import java.util.ArrayList;
import java.util.Arrays;
import java.util.List;
import java.util.Set;
import java.util.TreeSet;
import java.util.regex.Matcher;
import java.util.regex.Pattern;

/** What stands ahead of the promises: the public face, word by word of the document, and the 512 calls of an object. */
public final class DocumentTest {
    private static final Check CHECK = new Check();

    /** The lines of the document's face, without the names of parameters. */
    private static Set<String> faceToldBy(String document) {
        Matcher block = Pattern.compile("(?s)```java\n(.*?)```").matcher(document);
        Set<String> told = new TreeSet<>();
        if (block.find()) {
            for (String line : block.group(1).split("\n")) {
                if (line.startsWith("    public ")) {
                    told.add(line.trim().replaceAll("(int|boolean) \\w+(?=[,)])", "$1"));
                }
            }
        }
        return told;
    }

    private static String tail(Executable e) {
        List<String> types = new ArrayList<>();
        for (Class<?> type : e.getParameterTypes()) {
            types.add(type.getSimpleName());
        }
        List<String> thrown = new ArrayList<>();
        for (Class<?> type : e.getExceptionTypes()) {
            thrown.add(type.getSimpleName());
        }
        return "(" + String.join(", ", types) + ")" + (thrown.isEmpty() ? "" : " throws " + String.join(", ", thrown)) + ";";
    }

    private static Set<String> faceOfTheClass() {
        Set<String> got = new TreeSet<>();
        for (Method m : OtherTown.class.getDeclaredMethods()) {
            if (Modifier.isPublic(m.getModifiers())) {
                got.add(Modifier.toString(m.getModifiers()) + " " + m.getReturnType() + " " + m.getName() + tail(m));
            }
        }
        for (Constructor<?> c : OtherTown.class.getConstructors()) {
            got.add("public " + c.getName() + tail(c));
        }
        for (Field f : OtherTown.class.getFields()) {
            got.add(Modifier.toString(f.getModifiers()) + " " + f.getType() + " " + f.getName() + " = " + OtherTown.NONE + ";");
        }
        return got;
    }

    private static void face(String document) {
        Set<String> told = faceToldBy(document);
        CHECK.due("the constant, the constructor and 55 calls", told.size(), 57);
        CHECK.due("the face", String.join("\n", faceOfTheClass()), String.join("\n", told));
        CHECK.due("it is public and final", Modifier.toString(OtherTown.class.getModifiers()), "public final");
        CHECK.due("it is of no package", OtherTown.class.getPackageName(), "");
    }

    /** Each promise is of one call, so the Edges..Tests, which go by their numbers, leave no call out. */
    private static void promises(String document) {
        Set<String> calls = new TreeSet<>();
        for (Method m : OtherTown.class.getDeclaredMethods()) {
            if (Modifier.isPublic(m.getModifiers())) {
                calls.add(m.getName());
            }
        }
        Matcher title = Pattern.compile("## Promise (\\d+): (.*)").matcher(document);
        int number = 0;
        while (title.find()) {
            number++;
            CHECK.due("the number of " + title.group(), Integer.parseInt(title.group(1)), number);
            CHECK.due("the call of " + title.group(), number == 1 || calls.remove(title.group(2)), true);
        }
        CHECK.due("promises", number, 56);
        CHECK.due("calls without a promise", calls.size(), 0);
    }

    /** Two of the left share one bed all their nights: by fair turns each has it every second one, to the last call. */
    private static void life() {
        OtherTown x = new OtherTown();
        String text = "towns vow 1 month 0 wide 1 turn 0;house a left beds 1;house b right beds 1"
                + ";person k plain of a walks 1 kin 0;person l plain of a walks 1 kin 0";
        Check.tell(x, text);
        int calls = Check.feeds(text).length + 1;
        int nights = 0;
        for (; calls < 508; calls++) {
            nights += 40;
            CHECK.due("NIGHTS", x.nights(40), nights);
        }
        CHECK.due("the 509th call", x.turnsOf(0), nights / 2);
        CHECK.due("the 510th call", x.turnsOf(1), nights / 2);
        CHECK.due("the 511th call", x.undo(), true);
        CHECK.due("the 512th call", x.size(9), nights - 40);
    }

    /** The dearest calls, of the fullest towns, each behind a change, so that none can rest on what was worked out. */
    private static void fullLife() {
        OtherTown x = Check.town(Edges.FULL + Edges.FULL_WANTS + ";ill 20");
        Check.led(x, 0);
        int calls = Check.feeds(Edges.FULL + Edges.FULL_WANTS + ";ill 20").length + 2;
        int[] people = new int[2];
        for (int p = 0; p < 10; p++) {
            people[x.person(p, 2)]++;
        }
        CHECK.due("people", Arrays.toString(people), "[5, 5]");
        calls += 10;
        for (int seed = 0; calls + 6 <= 512; seed++) {
            CHECK.due("seed", x.seed(seed * 131), true);
            CHECK.due("leaksIn", x.leaksIn(0) >= 0, true);
            CHECK.due("churchIn", x.churchIn(40) <= 400, true);
            CHECK.due("nights", x.nights(40), 40 * (seed + 1));
            CHECK.due("rows", x.rows(seed % 2) >= 1, true);
            CHECK.due("crossed", x.crossed() <= 36, true);
            calls += 6;
        }
    }

    public static void main(String[] args) throws IOException {
        Path path = Path.of("../shared/DOC.md");
        if (Files.exists(path)) {
            face(Files.readString(path));
            promises(Files.readString(path));
        } else {
            System.out.println("the document is not there, so the face was not looked at");
        }
        life();
        fullLife();
        CHECK.end();
    }
}
