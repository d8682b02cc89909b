import java.io.IOException;
import java.lang.reflect.Constructor;
import java.lang.reflect.Field;
import java.lang.reflect.Method;
import java.lang.reflect.Modifier;
import java.nio.file.Files;
import java.nio.file.Path;
import java.util.List;
import java.util.Set;
import java.util.TreeSet;
import java.util.regex.Matcher;
import java.util.regex.Pattern;

/** What of LANGUAGE.md can be seen without understanding the program; DocumentTest looks at the face itself. */
public final class LanguageTest {
    private static final Check CHECK = new Check();

    private static void face() {
        Set<String> names = new TreeSet<>();
        for (Method m : OtherTown.class.getDeclaredMethods()) {
            if (Modifier.isPublic(m.getModifiers())) {
                names.add(m.getName());
            } else {
                CHECK.due(m + " is private", Modifier.isPrivate(m.getModifiers()), true);
            }
        }
        CHECK.due("final", Modifier.isFinal(OtherTown.class.getModifiers()), true);
        for (Constructor<?> c : OtherTown.class.getDeclaredConstructors()) {
            CHECK.due(c + "", c.getParameterCount() == 0 && Modifier.isPublic(c.getModifiers()), true);
        }
        for (Field f : OtherTown.class.getDeclaredFields()) {
            CHECK.due(f + "", Modifier.isPrivate(f.getModifiers()) || f.getName().equals("NONE"), true);
        }
        for (Class<?> c : OtherTown.class.getDeclaredClasses()) {
            CHECK.due(c + " is static, not public", c.getModifiers() & (Modifier.STATIC | Modifier.PUBLIC), Modifier.STATIC);
        }
        shapes(names);
    }

    private static void shapes(Set<String> names) {
        List<Class<?>> all = new java.util.ArrayList<>(List.of(OtherTown.class.getDeclaredClasses()));
        all.add(OtherTown.class);
        CHECK.due("classes", all.size() <= 12, true);
        for (Class<?> c : all) {
            int fields = 0;
            for (Field f : c.getDeclaredFields()) {
                if (!Modifier.isStatic(f.getModifiers())) {
                    fields++;
                } else {
                    CHECK.due(f + " is a constant", Modifier.isFinal(f.getModifiers()), true);
                }
            }
            CHECK.due(c + " has " + fields + " fields", fields <= 20, true);
            for (Method m : c.getDeclaredMethods()) {
                CHECK.due(m + " has few parameters", m.getParameterCount() <= 7, true);
                boolean clash = names.contains(m.getName()) && !Modifier.isPublic(m.getModifiers());
                CHECK.due(m + " bears a name of the face", clash, false);
            }
        }
    }

    private static void source() throws IOException {
        String text = Files.readString(Path.of("src/main/java/OtherTown.java"));
        String bare = text.replaceAll("(?s)/\\*.*?\\*/", "").replaceAll("//[^\n]*", "");
        String words = bare.replaceAll("\"[^\"]*\"", "\"\"");
        String[] never = {"->", "::", "\\bcatch\\b", "\\btry\\b", "\\bfinally\\b", "\\bsynchronized\\b", "\\bassert\\b",
            "\\binstanceof\\b", "\\bvar\\b", "Exact\\b", "\\bNaN\\b", "\\bhashCode\\b", "\\btoString\\b", "\\bgetClass\\b",
            "\\bnull\\b", "\\bdouble\\b", "\\bfloat\\b", "\\bpackage\\b", "\\bimport static\\b", "static \\{", "\\.stream\\b"};
        for (String word : never) {
            CHECK.due("stands there: " + word, Pattern.compile(word).matcher(words).find(), false);
        }
        Matcher library = Pattern.compile("\\b(System|Arrays|Math|Integer|Long|String)\\.(\\w+)").matcher(words);
        List<String> listed = List.of("System.arraycopy", "Arrays.fill", "Math.max", "Math.min", "Integer.bitCount");
        while (library.find()) {
            CHECK.due(library.group() + " is listed", listed.contains(library.group()), true);
        }
        Matcher imports = Pattern.compile("import ([\\w.]+);").matcher(words);
        while (imports.find()) {
            CHECK.due(imports.group(), List.of("java.util.Arrays", "java.util.NoSuchElementException")
                    .contains(imports.group(1)), true);
        }
        for (int i = 0; i < text.length(); i++) {
            CHECK.due("a sign of the source", text.charAt(i) < 127, true);
        }
        room(words);
        lengths(words);
    }

    /** All is made when the object is: no call makes anything that would fill the one room. */
    private static void room(String words) {
        for (String line : words.split("\n")) {
            if (line.contains("new ") && !line.contains("throw new ")) {
                boolean field = line.matches("\\s+(private )?(final )?[\\w\\[\\]]+ \\w+ = .*");
                boolean inConstructor = line.matches("\\s+(kept|images|rest)\\[i\\] = new \\w+\\(\\);");
                CHECK.due("made outside of constructors: " + line, field || inConstructor, true);
            }
        }
    }

    private static void lengths(String words) {
        int start = -1;
        String[] lines = words.split("\n");
        for (int i = 0; i < lines.length; i++) {
            if (lines[i].matches("( {4}| {8})(public|private|static|void|int|long|boolean|\\w+)\\b[^=;]*\\{")
                    && lines[i].contains("(")) {
                start = i;
            }
            if (start >= 0 && lines[i].matches(" {4}\\}| {8}\\}")) {
                CHECK.due("lines of " + lines[start].trim(), i - start < 60, true);
                start = -1;
            }
            CHECK.due("width of " + lines[i], lines[i].length() <= 120, true);
        }
    }

    public static void main(String[] args) throws IOException {
        face();
        source();
        CHECK.end();
    }
}
