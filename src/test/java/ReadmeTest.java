import java.io.IOException;
import java.lang.reflect.Method;
import java.lang.reflect.Modifier;
import java.nio.file.Files;
import java.nio.file.Path;
import java.util.List;
import java.util.regex.Matcher;
import java.util.regex.Pattern;
import java.util.stream.Stream;

/** README.md: its calls answer what stands behind them, and it leaves out no call and no test. */
public final class ReadmeTest {
    private static final Pattern BLOCK = Pattern.compile("```java\n(.*?)```", Pattern.DOTALL);
    private static final Pattern LINE = Pattern.compile("x\\.(\\w+)\\(([^)]*)\\);\\s+// (-?\\d+)(:.*)?");

    public static void main(String[] args) throws IOException, ReflectiveOperationException {
        // The argument is src/main/java/NineDays.java under the place where README.md stands.
        Path root = Path.of(args[0]).toAbsolutePath().getParent().getParent().getParent().getParent();
        String text = Files.readString(root.resolve("README.md"));
        Matcher block = BLOCK.matcher(text);
        int blocks = 0;
        while (block.find()) {
            blocks++;
            examples(block.group(1).strip().split("\n"));
        }
        Check.due("blocks of calls", blocks, 4);
        for (Method m : NineDays.class.getDeclaredMethods()) {
            if (Modifier.isPublic(m.getModifiers())) named(text, m.getName());
        }
        for (String name : List.of("UNKNOWN", "OUTSIDE", "NOT", "FULL", "NONE")) named(text, name);
        try (Stream<Path> files = Files.list(root.resolve("src/test/java"))) {
            List<String> names = files.map(f -> f.getFileName().toString()).filter(n -> n.endsWith("Test.java")).toList();
            for (String name : names) named(text, name.replace(".java", ""));
        }
        Check.end();
    }

    private static void named(String text, String name) {
        Check.due("README.md names " + name, text.contains("`" + name + "`"), true);
    }

    private static void examples(String[] lines) throws ReflectiveOperationException {
        Check.due("a block begins with an object", lines[0], "NineDays x = new NineDays();");
        NineDays x = new NineDays();
        for (int i = 1; i < lines.length; i++) {
            Matcher line = LINE.matcher(lines[i]);
            boolean reads = line.matches();
            Check.due("a call and what it answers: " + lines[i], reads, true);
            if (reads) Check.due(lines[i], (int) call(x, line.group(1), line.group(2)), Integer.parseInt(line.group(3)));
        }
    }

    private static Object call(NineDays x, String name, String arguments) throws ReflectiveOperationException {
        String[] words = arguments.isEmpty() ? new String[0] : arguments.split(", ");
        for (Method m : NineDays.class.getDeclaredMethods()) {
            if (!m.getName().equals(name) || !Modifier.isPublic(m.getModifiers())) continue;
            Class<?>[] types = m.getParameterTypes();
            if (types.length != words.length) continue;
            Object[] values = new Object[words.length];
            for (int i = 0; i < words.length; i++) values[i] = value(types[i], words[i]);
            return m.invoke(x, values);
        }
        throw new NoSuchMethodException(name + " of " + words.length);
    }

    private static Object value(Class<?> type, String word) {
        if (type == boolean.class) return word.equals("true");
        if (type == long.class) return Long.decode(word.replace("L", ""));
        return Integer.decode(word);
    }
}
