import java.io.PrintWriter;
import java.io.StringWriter;
import java.util.ArrayList;
import java.util.List;
import java.util.Map;
import java.util.Optional;
import java.util.TreeMap;
import java.util.TreeSet;
import java.util.regex.Matcher;
import java.util.regex.Pattern;
import java.util.spi.ToolProvider;

/** What of LANGUAGE.md can be seen in the compiled class: what it calls, how deep, what it does with doubles. */
public final class BytecodeTest {
    private static final Due DUE = new Due();
    private static final Map<String, TreeSet<String>> CALLS = new TreeMap<>();

    public static void main(String[] args) {
        Optional<ToolProvider> javap = ToolProvider.findFirst("javap");
        if (javap.isEmpty()) {
            System.out.println("skipped: there is no javap here");
            return;
        }
        for (String name : classes()) {
            read(name, listing(javap.get(), name));
        }
        DUE.due("methods were found", CALLS.size() > 20 ? 1 : 0, 1);
        for (String method : CALLS.keySet()) {
            if (method.startsWith("MachineWitness.")) {
                int deep = depth(method, new ArrayList<>());
                DUE.due(method + " goes " + deep + " deep", deep <= 8 ? 1 : 0, 1);
            }
        }
        DUE.finish();
    }

    private static List<String> classes() {
        List<String> names = new ArrayList<>(List.of("MachineWitness"));
        for (Class<?> c : MachineWitness.class.getDeclaredClasses()) {
            names.add(c.getName());
        }
        return names;
    }

    private static String listing(ToolProvider javap, String name) {
        StringWriter said = new StringWriter();
        PrintWriter out = new PrintWriter(said);
        javap.run(out, out, "-c", "-p", "-classpath", System.getProperty("java.class.path"), name);
        return said.toString();
    }

    private static void read(String owner, String listing) {
        Pattern head = Pattern.compile("^  \\S.*?([\\w$]+)\\([^)]*\\)( throws .*)?;$");
        Pattern call = Pattern.compile("// (?:Interface)?Method (?:([\\w$/]+)\\.)?\"?([\\w$<>]+)\"?:");
        String method = owner + ".<clinit>";
        for (String line : listing.split("\\R")) {
            Matcher h = head.matcher(line);
            if (h.matches()) {
                method = owner + "." + (h.group(1).equals(owner) ? "<init>" : h.group(1));
                CALLS.computeIfAbsent(method, k -> new TreeSet<>());
            }
            // Rules 3 and 6: no % of doubles, no throw, no lambda, no text joined by +.
            boolean never = line.matches("\\s+\\d+: (?:drem|frem|athrow|invokedynamic|monitorenter)\\b.*");
            DUE.due(method + ":" + line, never ? 1 : 0, 0);
            Matcher c = call.matcher(line);
            if (line.contains(": invoke") && c.find()) {
                called(method, c.group(1) == null ? owner : c.group(1), c.group(2));
            }
        }
    }

    private static void called(String method, String owner, String name) {
        if (owner.startsWith("MachineWitness")) {
            CALLS.computeIfAbsent(method, k -> new TreeSet<>()).add(owner + "." + name);
            return;
        }
        String library = "java/lang/(?:Math|Integer|Long|String|StringBuilder|System|Object|Iterable)"
            + "|java/util/(?:Arrays|ArrayList|List|Iterator)";
        DUE.due(method + " calls " + owner + "." + name, owner.matches(library) ? 1 : 0, 1);
    }

    /** Of methods of one name the deepest counts; one that calls itself is followed once. */
    private static int depth(String method, List<String> open) {
        int deepest = 0;
        open.add(method);
        for (String next : CALLS.getOrDefault(method, new TreeSet<>())) {
            if (!open.contains(next)) {
                deepest = Math.max(deepest, depth(next, open));
            }
        }
        open.remove(open.size() - 1);
        return deepest + 1;
    }
}
