import java.io.PrintWriter;
import java.io.StringWriter;
import java.util.ArrayList;
import java.util.HashMap;
import java.util.List;
import java.util.Map;
import java.util.Optional;
import java.util.Set;
import java.util.TreeMap;
import java.util.TreeSet;
import java.util.regex.Matcher;
import java.util.regex.Pattern;
import java.util.spi.ToolProvider;

/** Rules 8 and 11 of LANGUAGE.md, seen in the bytecode: what calls itself, and how deep the other calls go. */
public final class CallDepthTest {
    private static final int DEEPEST = 8;
    /** All that calls itself; the document's limits keep them to 5 people of a SIDE and 10 walkers. */
    private static final Set<String> RECURSIVE =
            Set.of("OtherTown$Finder.fill", "OtherTown$Finder.fillBed", "OtherTown$Bridge.spread");

    private final Map<String, Set<String>> calls = new TreeMap<>();
    private final Map<String, Integer> depths = new HashMap<>();

    private void readClass(ToolProvider javap, String name) {
        StringWriter out = new StringWriter();
        javap.run(new PrintWriter(out), new PrintWriter(out), "-c", "-p", "-cp", System.getProperty("java.class.path"), name);
        Pattern head = Pattern.compile("  \\S.*?([\\w$]+)\\(.*\\).*;");
        Pattern invoke = Pattern.compile(".*: invoke.*// Method ([^:]+):.*");
        String method = "";
        for (String line : out.toString().split("\n")) {
            Matcher h = head.matcher(line);
            Matcher i = invoke.matcher(line);
            if (h.matches()) {
                method = name + "." + (h.group(1).equals(name) ? "<init>" : h.group(1));
                calls.put(method, new TreeSet<>());
            } else if (i.matches()) {
                String target = i.group(1).replace("\"", "");
                calls.get(method).add(target.contains(".") ? target : name + "." + target);
            }
        }
    }

    private boolean reaches(String from, String to, Set<String> seen) {
        for (String next : calls.getOrDefault(from, Set.of())) {
            if (next.equals(to) || seen.add(next) && reaches(next, to, seen)) {
                return true;
            }
        }
        return false;
    }

    /** Those that call themselves count once each, in the order in which one is come to. */
    private int depth(String method, List<String> open) {
        if (depths.containsKey(method)) {
            return depths.get(method);
        }
        int deepest = 0;
        open.add(method);
        for (String next : calls.getOrDefault(method, Set.of())) {
            if (calls.containsKey(next) && !open.contains(next)) {
                deepest = Math.max(deepest, depth(next, open));
            }
        }
        open.remove(open.size() - 1);
        if (!RECURSIVE.contains(method)) {
            depths.put(method, deepest + 1);
        }
        return deepest + 1;
    }

    public static void main(String[] args) {
        Check check = new Check();
        CallDepthTest t = new CallDepthTest();
        Optional<ToolProvider> javap = ToolProvider.findFirst("javap");
        if (javap.isEmpty()) {
            System.out.println("this Java has no javap, so the bytecode was not looked at");
            return;
        }
        t.readClass(javap.get(), "OtherTown");
        for (Class<?> c : OtherTown.class.getDeclaredClasses()) {
            t.readClass(javap.get(), c.getName());
        }
        check.due("methods were found", t.calls.size() > 150, true);
        for (String method : t.calls.keySet()) {
            check.due(method + " calls itself", t.reaches(method, method, new TreeSet<>()), RECURSIVE.contains(method));
            int deep = t.depth(method, new ArrayList<>());
            check.due(method + " goes " + deep + " deep; no more than " + DEEPEST, deep <= DEEPEST, true);
        }
        check.end();
    }
}
