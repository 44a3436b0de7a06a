import java.lang.reflect.Method;
import java.util.ArrayList;
import java.util.Comparator;
import java.util.List;
import java.util.Random;

/** Long runs of calls, the class beside the plain model: every answer must be the same, and no call may throw. */
public final class ModelTest {
    private static final String[] PIECES = {"need ", "bread ", "milk ", "coal ", "owners", "council", "union", "state",
        ",", ";", "pay ", "cost ", "fear ", "slow ", "strike ", "0", "1", "2", "30", "100", "1000", " ", "x", "\u00e9", "A"};
    private static final int[] EXTREMES = {Integer.MIN_VALUE, Integer.MIN_VALUE + 1, -1000, -2, -1, 8, 9, 40, 64, 241,
        256, 1000, 10000, 100000, 531441, Integer.MAX_VALUE - 1, Integer.MAX_VALUE};

    /** What later calls answer is free. */
    private static final int MOST_CALLS = 512;

    private final Random random;
    private final NineDays own = new NineDays();
    private final PlainDays plain = new PlainDays();
    private final List<Method[]> calls = new ArrayList<>();
    private final StringBuilder history = new StringBuilder();
    private final int wildness;
    private final int pace;
    private int called = 0;

    private ModelTest(long seed) throws ReflectiveOperationException {
        random = new Random(seed);
        // Some runs are all good sense, some are wild; some stay long in few hours.
        wildness = new int[] {0, 3, 10, 50}[random.nextInt(4)];
        pace = new int[] {2, 10, 30, 100}[random.nextInt(4)];
        Method[] all = NineDays.class.getDeclaredMethods();
        java.util.Arrays.sort(all, Comparator.comparing(Method::getName));
        for (Method m : all) {
            if (!java.lang.reflect.Modifier.isPublic(m.getModifiers())) continue;
            calls.add(new Method[] {m, PlainDays.class.getDeclaredMethod(m.getName(), m.getParameterTypes())});
        }
    }

    public static void main(String[] args) throws ReflectiveOperationException {
        int runs = Integer.getInteger("runs", 400);
        for (int seed = 0; seed < runs; seed++) {
            if (!new ModelTest(seed).run()) break;
        }
        Check.end();
    }

    private boolean run() throws ReflectiveOperationException {
        boolean fine = true;
        while (fine && called < MOST_CALLS) {
            fine = random.nextInt(12) == 0 ? text() : call(calls.get(random.nextInt(calls.size())));
        }
        return fine;
    }

    private boolean text() throws ReflectiveOperationException {
        StringBuilder text = new StringBuilder();
        int clauses = random.nextInt(10) == 0 ? 9 : random.nextInt(4);
        for (int c = 0; c < clauses; c++) text.append(clause());
        if (text.length() > 0 && random.nextInt(3) == 0) {
            int at = random.nextInt(text.length());
            text.replace(at, Math.min(text.length(), at + random.nextInt(3)), PIECES[random.nextInt(PIECES.length)]);
        }
        for (int at = 0; at < text.length(); at += 8) {
            long packed = random.nextLong();
            int n = Math.min(8, text.length() - at);
            for (int i = 0; i < n; i++) packed = packed << 8 | text.charAt(at + i);
            if (!compare(method("feed"), n, packed)) return false;
        }
        return compare(method("rule"), number("rule", 0)) && compare(method("fault"));
    }

    private String clause() {
        String blank = random.nextInt(4) == 0 ? " " : "";
        int kind = random.nextInt(6);
        if (kind == 5) {
            StringBuilder need = new StringBuilder("need " + PlainDays.GOODS.get(random.nextInt(3)) + " ");
            for (int s = random.nextInt(3); s >= 0; s--) {
                need.append(PlainDays.STAMPS.get(random.nextInt(4))).append(blank).append(s == 0 ? ";" : ",").append(blank);
            }
            return need.toString();
        }
        int[] bounds = {100, 100, 101, 9, 3};
        int value = (kind == 3 ? 1 : 0) + random.nextInt(bounds[kind]);
        if (kind < 2 && random.nextInt(3) > 0) value %= 12;
        if (random.nextInt(25) == 0) value *= 40;
        return blank + PlainDays.NUMBERED.get(kind) + " " + blank + value + blank + ";" + blank;
    }

    private Method[] method(String name) {
        for (Method[] pair : calls) if (pair[0].getName().equals(name)) return pair;
        throw new IllegalStateException(name);
    }

    private boolean call(Method[] pair) throws ReflectiveOperationException {
        String name = pair[0].getName();
        if ((name.equals("game") || name.equals("beside")) && random.nextInt(4) > 0) return true;
        Class<?>[] types = pair[0].getParameterTypes();
        Object[] arguments = new Object[types.length];
        for (int i = 0; i < types.length; i++) {
            if (types[i] == boolean.class) arguments[i] = random.nextBoolean();
            else if (types[i] == long.class) arguments[i] = random.nextLong();
            else arguments[i] = number(name, i);
        }
        return compare(pair, arguments);
    }

    private boolean compare(Method[] pair, Object... arguments) throws ReflectiveOperationException {
        if (called == MOST_CALLS) return true;
        called++;
        Object got = pair[0].invoke(own, arguments);
        Object want = pair[1].invoke(plain, arguments);
        String call = pair[0].getName() + java.util.Arrays.toString(arguments);
        history.append(call).append(" = ").append(got).append('\n');
        Check.due(call, got, want);
        if (got.equals(want)) return true;
        System.out.println(history);
        return false;
    }

    private int number(String name, int i) {
        if (random.nextInt(100) < wildness) return EXTREMES[random.nextInt(EXTREMES.length)];
        int[] bounds = switch (name) {
            case "road" -> new int[] {8, 8, 31};
            case "store" -> new int[] {8, 3, 10000};
            case "need" -> new int[] {8, 3, 30};
            case "members" -> new int[] {6, 8, 100};
            case "purse" -> new int[] {6, 30};
            case "fund" -> new int[] {6, 4000};
            case "out" -> new int[] {6, 8, 4};
            case "town" -> new int[] {8, 9};
            case "count" -> new int[] {14};
            case "order" -> new int[] {4, 6, 8, -1};
            case "reach" -> new int[] {Math.max(1, plain.orders.size()), 8};
            case "late" -> new int[] {Math.max(1, plain.orders.size())};
            case "called" -> new int[] {6, 8, 241};
            case "holds" -> new int[] {6, 8, 241, 2};
            case "feed" -> new int[] {9};
            case "rule" -> new int[] {241};
            case "force" -> new int[] {7, 241};
            case "load" -> new int[] {3, 400, 8, 8, -1};
            case "stamp" -> new int[] {Math.max(1, plain.loads.size()), 4};
            case "told" -> new int[] {Math.max(1, plain.loads.size()), 9};
            case "clash" -> new int[] {8};
            case "go" -> new int[] {pace};
            case "leave" -> new int[] {8, 8, 150, 241};
            case "binds" -> new int[] {256, 241, 8};
            case "table" -> new int[] {3, 3, -2};
            case "game" -> new int[] {6, 150, 2};
            case "judge" -> new int[] {7, 300, 531441};
            case "lending" -> new int[] {64};
            default -> new int[] {8, 8, 8};
        };
        if (bounds[i] == -1) return Math.min(240, plain.now + random.nextInt(30));
        if (bounds[i] == -2) return random.nextInt(199) - 99;
        return random.nextInt(bounds[i]);
    }
}
