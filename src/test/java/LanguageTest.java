import java.io.IOException;
import java.lang.reflect.Constructor;
import java.lang.reflect.Field;
import java.lang.reflect.Method;
import java.lang.reflect.Modifier;
import java.nio.file.Files;
import java.nio.file.Path;
import java.util.ArrayList;
import java.util.List;
import java.util.TreeSet;
import java.util.regex.Matcher;
import java.util.regex.Pattern;

/** What of LANGUAGE.md can be seen from outside; its argument is the path of NineDays.java. */
public final class LanguageTest {
    private static final String FACE = "away(int,int) beside(boolean) binds(int,int,int) called(int,int,int) clash(int) "
        + "count(int) fault() feed(int,long) force(int,int) fund(int,int) game(int,int,int) go(int) holds(int,int,int,int) "
        + "judge(int,int,int) last(int) late(int) leave(int,int,int,int,boolean) lending(int) load(int,int,int,int,int) "
        + "members(int,int,int) need(int,int,int) order(int,int,int,int) out(int,int,int) purse(int,int) reach(int,int) "
        + "road(int,int,int) rule(int) stamp(int,int) store(int,int,int) table(int,int,int) told(int,int) town(int,int) words()";

    public static void main(String[] args) throws IOException {
        face();
        constants();
        insides();
        if (args.length > 0) source(Files.readString(Path.of(args[0])));
        Check.end();
    }

    private static void face() {
        TreeSet<String> names = new TreeSet<>();
        for (Method m : NineDays.class.getDeclaredMethods()) {
            if (Modifier.isPrivate(m.getModifiers())) continue;
            List<String> types = new ArrayList<>();
            for (Class<?> type : m.getParameterTypes()) types.add(type.getName());
            names.add(m.getName() + "(" + String.join(",", types) + ")");
            Check.due(m.getName() + " answers an int", m.getReturnType().getName(), "int");
            Check.due(m.getName() + " is public", m.getModifiers(), Modifier.PUBLIC);
        }
        Check.due("the methods", String.join(" ", names), FACE);
        Constructor<?>[] made = NineDays.class.getDeclaredConstructors();
        Check.due("constructors", made.length, 1);
        Check.due("it takes nothing", made[0].getParameterCount(), 0);
        Check.due("it is public", made[0].getModifiers(), Modifier.PUBLIC);
        Check.due("the class is public and final", NineDays.class.getModifiers(), Modifier.PUBLIC | Modifier.FINAL);
    }

    private static void constants() {
        TreeSet<String> names = new TreeSet<>();
        for (Field f : NineDays.class.getDeclaredFields()) {
            if (!Modifier.isPrivate(f.getModifiers())) names.add(f.getName());
        }
        Check.due("the constants", String.join(" ", names), "FULL NONE NOT OUTSIDE UNKNOWN");
        Check.due("NONE", NineDays.NONE, -1);
        Check.due("UNKNOWN", NineDays.UNKNOWN, -1001);
        Check.due("OUTSIDE", NineDays.OUTSIDE, -1002);
        Check.due("NOT", NineDays.NOT, -1003);
        Check.due("FULL", NineDays.FULL, -1004);
    }

    private static void insides() {
        TreeSet<String> open = new TreeSet<>();
        for (Method m : NineDays.class.getDeclaredMethods()) {
            if (!Modifier.isPrivate(m.getModifiers())) open.add(m.getName());
        }
        List<Class<?>> all = new ArrayList<>(List.of(NineDays.class.getDeclaredClasses()));
        Check.due("twelve classes at most", all.size() < 12, true);
        all.add(NineDays.class);
        for (Class<?> c : all) {
            int fields = 0;
            for (Field f : c.getDeclaredFields()) {
                boolean fixed = Modifier.isStatic(f.getModifiers());
                Check.due(f + " is final if static", !fixed || Modifier.isFinal(f.getModifiers()), true);
                if (!fixed) fields++;
            }
            Check.due("twenty fields at most in " + c, fields <= 20, true);
            if (c != NineDays.class) Check.due(c + " is static", Modifier.isStatic(c.getModifiers()), true);
            for (Method m : c.getDeclaredMethods()) {
                Check.due("seven parameters at most in " + m, m.getParameterCount() <= 7, true);
                boolean ownFace = c == NineDays.class && Modifier.isPublic(m.getModifiers());
                Check.due(m + " has a name of its own", ownFace || !open.contains(m.getName()), true);
            }
        }
    }

    private static void source(String text) {
        String code = text.replaceAll("(?s)/\\*.*?\\*/", "").replaceAll("//[^\n]*", "").replaceAll("\"[^\"]*\"", "\"\"");
        for (String word : List.of("throw", "throws", "try", "catch", "finally", "synchronized", "assert", "Exact",
            "System\\.(?!arraycopy)\\w+", "->", "::", "package", "volatile", "transient", "native", "Random", "Thread")) {
            Matcher m = Pattern.compile(word.matches("\\w+") ? "\\b" + word + "\\b" : word).matcher(code);
            Check.due("'" + word + "' stands in the source", m.find(), false);
        }
        Matcher imports = Pattern.compile("import ([^;]*);").matcher(code);
        while (imports.find()) Check.due("import", imports.group(1), "java.util.Arrays");
        Matcher arrays = Pattern.compile("Arrays\\.(\\w+)").matcher(code.replace("import java.util.Arrays", ""));
        while (arrays.find()) Check.due("of Arrays", arrays.group(1), "fill");
        Matcher maths = Pattern.compile("Math\\.(\\w+)").matcher(code);
        while (maths.find()) Check.due("of Math", List.of("min", "max", "abs").contains(maths.group(1)), true);
        Check.due("signs of the source", text.chars().allMatch(c -> c == '\n' || c >= 32 && c < 127), true);
        methods(code);
    }

    private static void methods(String code) {
        String head = "";
        int lines = 0;
        for (String line : code.split("\n")) {
            boolean begins = line.matches("( {4}| {8})[\\w\\[\\]]+.*\\) \\{");
            if (begins) {
                head = line.strip();
                lines = 0;
            }
            lines++;
            Check.due("sixty lines at most: " + head, head.isEmpty() || lines <= 60, true);
            if (line.matches("( {4}| {8})\\}")) head = "";
            if (line.contains("new ")) {
                boolean made = head.startsWith("public NineDays()") || head.isEmpty();
                Check.due("rows are made with the object: " + line.strip(), made, true);
            }
        }
    }
}
