import java.lang.reflect.Method;
import java.nio.file.Files;
import java.nio.file.Path;
import java.util.TreeSet;
import java.util.regex.Matcher;
import java.util.regex.Pattern;

/** README.md's examples: every call must give the answer that stands behind it. It is run where README.md lies. */
public final class ReadmeTest {
    private static final Due DUE = new Due();
    private static final Pattern BLOCK = Pattern.compile("(?s)```java\\n(.*?)```");
    private static final Pattern CALL = Pattern.compile("w\\.(\\w+)\\(([-\\d, ]*)\\);\\s*// (-?\\d+)(?::.*)?");
    private static final String MAKES = "MachineWitness w = new MachineWitness();";

    public static void main(String[] args) throws Exception {
        Matcher blocks = BLOCK.matcher(Files.readString(Path.of("README.md")));
        int examples = 0;
        while (blocks.find()) {
            examples++;
            example(blocks.group(1).split("\\n"));
        }
        DUE.due("examples", examples, 2);
        tests();
        DUE.finish();
    }

    private static void example(String[] lines) throws Exception {
        DUE.due("an object is made: " + lines[0], lines[0].equals(MAKES) ? 1 : 0, 1);
        MachineWitness w = new MachineWitness();
        for (int i = 1; i < lines.length; i++) {
            Matcher call = CALL.matcher(lines[i]);
            boolean told = call.matches();
            DUE.due("a call with its answer: " + lines[i], told ? 1 : 0, 1);
            if (told) {
                DUE.due(lines[i], answer(w, call.group(1), numbers(call.group(2))), Long.parseLong(call.group(3)));
            }
        }
    }

    private static Object[] numbers(String list) {
        String[] parts = list.isEmpty() ? new String[0] : list.split(", ");
        Object[] numbers = new Object[parts.length];
        for (int i = 0; i < parts.length; i++) {
            numbers[i] = Integer.valueOf(parts[i]);
        }
        return numbers;
    }

    private static long answer(MachineWitness w, String name, Object[] numbers) throws Exception {
        Class<?>[] types = new Class<?>[numbers.length];
        java.util.Arrays.fill(types, int.class);
        Method method = MachineWitness.class.getMethod(name, types);
        return ((Number) method.invoke(w, numbers)).longValue();
    }

    /** Each test of the project is told of, those of the edges as one. */
    private static void tests() throws Exception {
        String text = Files.readString(Path.of("README.md"));
        TreeSet<String> names = new TreeSet<>();
        try (var files = Files.list(Path.of("src/test/java"))) {
            files.forEach(f -> names.add(f.getFileName().toString().replace(".java", "")));
        }
        for (String name : names) {
            String shown = name.startsWith("EdgesOf") ? "EdgesOf..Test" : name;
            DUE.due("README.md tells of " + name, text.contains("`" + shown + "`") ? 1 : 0, 1);
        }
    }
}
