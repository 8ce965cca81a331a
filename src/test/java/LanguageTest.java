import java.io.IOException;
import java.nio.file.Files;
import java.nio.file.Path;
import java.util.HashSet;
import java.util.List;
import java.util.Set;
import java.util.regex.Matcher;
import java.util.regex.Pattern;

/** What of LANGUAGE.md can be seen in the source. It is run where src/main/java lies. */
public final class LanguageTest {
    private static final Due DUE = new Due();

    public static void main(String[] args) throws IOException {
        String source = Files.readString(Path.of("src/main/java/MachineWitness.java"));
        String code = source.replaceAll("(?s)/\\*.*?\\*/", " ").replaceAll("//[^\\n]*", " ")
            .replaceAll("\"(?:[^\"\\\\]|\\\\.)*\"", "\"\"");
        words(code);
        library(code);
        names(code);
        sizes(source);
        DUE.finish();
    }

    private static int times(String code, String pattern) {
        Matcher m = Pattern.compile(pattern).matcher(code);
        int n = 0;
        while (m.find()) {
            n++;
        }
        return n;
    }

    /** Rules 2, 5 and 6. */
    private static void words(String code) {
        List<String> never = List.of("\\bthrow\\b", "\\bthrows\\b", "\\btry\\b", "\\bcatch\\b", "\\bsynchronized\\b",
            "\\bassert\\b", "\\bpackage\\b", "\\)\\s*->", "::", "\\bstatic\\s*\\{", "\\bnew\\s+\\w+\\s*\\([^)]*\\)\\s*\\{",
            "\\bhashCode\\b");
        for (String w : never) {
            DUE.due(w, times(code, w), 0);
        }
        // A static field that is not final would be a static state.
        DUE.due("static fields", times(code, "\\bstatic\\s+(?!final)[\\w\\[\\]]+\\s+\\w+\\s*[=;,]"), 0);
        DUE.due("static doubles", times(code, "\\bstatic\\s+final\\s+(?:double|float|short)\\b"), 0);
    }

    /** Rule 4: every name of a class before a point, but for its own. */
    private static void library(String code) {
        Set<String> allowed = Set.of("Arrays", "System", "Math", "Long", "Integer", "String", "List");
        Set<String> own = new HashSet<>();
        Matcher classes = Pattern.compile("\\b(?:class|record|enum|interface)\\s+(\\w+)").matcher(code);
        while (classes.find()) {
            own.add(classes.group(1));
        }
        Matcher uses = Pattern.compile("\\b([A-Z][a-z]\\w*)\\s*\\.").matcher(code);
        while (uses.find()) {
            String name = uses.group(1);
            DUE.due("the class " + name, allowed.contains(name) || own.contains(name) ? 1 : 0, 1);
        }
        int listed = times(code, "\\bimport java\\.util\\.(?:Arrays|ArrayList|List|Iterator);");
        DUE.due("imports", times(code, "\\bimport\\b"), listed);
        Set<String> functions = Set.of("Arrays.fill", "Arrays.copyOf", "Arrays.copyOfRange", "System.arraycopy");
        Matcher calls = Pattern.compile("\\b(Arrays|System)\\.(\\w+)").matcher(code);
        while (calls.find()) {
            DUE.due(calls.group(), functions.contains(calls.group()) ? 1 : 0, 1);
        }
        DUE.due("functions that throw", times(code, "\\b\\w+Exact\\b"), 0);
        // Those of Math that are of doubles alone, or that may be.
        DUE.due("functions of doubles", times(code, "\\bMath\\.(?:floor|ceil|rint|round|signum|copySign|pow|sqrt)\\b"), 0);
    }

    /** Rule 1: no method that is not public has a name of the face. */
    private static void names(String code) {
        String face = "act|handler|empty|start|turn|number|real|small|hold|told|thing|item|field|ring|trace|count|clear";
        int declared = times(code, "\\b(?:int|long|double|float|boolean|void)\\s+(?:" + face + ")\\s*\\(");
        int open = times(code, "\\bpublic\\s+(?:int|long)\\s+(?:" + face + ")\\s*\\(");
        DUE.due("public methods", open, 17);
        DUE.due("methods by these names", declared, 17);
        DUE.due("public members", times(code, "\\bpublic\\b"), 17 + 4);
        DUE.due("protected members", times(code, "\\bprotected\\b"), 0);
        DUE.due("classes", times(code, "\\bclass\\s") <= 12 ? 1 : 0, 1);
    }

    /** Rules 3 and 11. */
    private static void sizes(String source) {
        int from = 0;
        int line = 0;
        for (String text : source.split("\\n", -1)) {
            line++;
            if (text.matches(" {4}(?: {4})?[^ ].*\\) \\{")) {
                from = line;
            }
            if (text.matches(" {4}(?: {4})?\\}") && from > 0) {
                DUE.due("lines of the method at " + from, line - from <= 60 ? 1 : 0, 1);
                from = 0;
            }
            for (char c : text.toCharArray()) {
                if (c > 255) {
                    DUE.due("a character in line " + line, c, 255);
                }
            }
        }
        Matcher heads = Pattern.compile("\\b\\w+\\(([^()]*)\\) \\{").matcher(source);
        while (heads.find()) {
            DUE.due("parameters: " + heads.group(1), heads.group(1).split(",").length <= 7 ? 1 : 0, 1);
        }
    }
}
