import java.lang.reflect.Method;
import java.lang.reflect.Modifier;
import java.util.ArrayList;
import java.util.List;
import java.util.Map;
import java.util.Random;
import java.util.TreeMap;

/** Long runs of calls, the class beside the plain model: every answer must be the same, and no call may throw. */
public final class ModelTest {
    private static final String[] PIECES = {"need ", "bread ", "milk ", "coal ", "owners", "council", "union", "state",
        ",", ";", "pay ", "cost ", "fear ", "slow ", "strike ", "0", "1", "2", "30", "100", "1000", " ", "x", "\u00e9", "A"};
    private static final int[] EXTREMES = {Integer.MIN_VALUE, Integer.MIN_VALUE + 1, -1000, -2, -1, 8, 9, 40, 64, 241,
        256, 1000, 10000, 100000, 531441, Integer.MAX_VALUE - 1, Integer.MAX_VALUE};

    /** Which argument is an hour that is told from NOW. */
    private static final Map<String, Integer> HOUR_AT = Map.of("order", 3, "load", 4, "called", 2, "holds", 2, "rule", 0, "force", 1);

    /** What later calls answer is free. */
    private static final int MOST_CALLS = 512;

    /** The last calls of a run ask for what has come of it. */
    private static final int CALLS_TO_ASK = 130;
    private static final List<String> LAYING = List.of("road", "road", "store", "store", "need", "need", "members", "members",
        "members", "purse", "fund", "fund", "order", "order", "order", "load", "load", "stamp", "stamp", "stamp", "leave", "table");
    /** What makes hours eventful comes more often than each call once. */
    private static final List<String> OFTEN = List.of("go", "go", "go", "order", "order", "load", "stamp", "stamp", "out", "out",
        "out", "town", "beside", "purse", "fund", "binds", "binds", "leave", "called");
    private static final List<String> ASKING = List.of("out", "out", "out", "out", "out", "town", "town", "told", "told", "beside",
        "count", "late", "reach", "called", "holds", "last", "lending", "fund", "store", "binds", "binds", "clash", "words", "force");

    private final Random random;
    private final NineDays own = new NineDays();
    private final PlainDays plain = new PlainDays();
    private final Map<String, Method[]> calls = new TreeMap<>();
    private final List<String> usual = new ArrayList<>(OFTEN);
    private final StringBuilder history = new StringBuilder();
    private final int wildness;
    private final int pace;
    /** A small land in which things meet, or the whole one. */
    private final int towns;
    private final int unions;
    private final int goods;
    private final int speakers;
    /** How far from NOW hours are asked and told for; how far from 0 amounts go. */
    private final int span;
    private final int size;
    private int called = 0;

    private ModelTest(long seed) throws ReflectiveOperationException {
        random = new Random(seed);
        // Some runs are all good sense, some are wild; some stay long in few hours.
        wildness = one(0, 0, 3, 10, 50);
        pace = one(2, 6, 10, 30, 101);
        towns = one(2, 3, 4, 8);
        unions = one(1, 2, 6);
        goods = one(1, 2, 3);
        speakers = one(3, 8, 8);
        span = one(3, 10, 30);
        size = random.nextInt(3);
        for (Method m : NineDays.class.getDeclaredMethods()) {
            if (!Modifier.isPublic(m.getModifiers())) continue;
            Method other = PlainDays.class.getDeclaredMethod(m.getName(), m.getParameterTypes());
            calls.put(m.getName(), new Method[] {m, other});
        }
        usual.addAll(calls.keySet());
    }

    private int one(int... of) {
        return of[random.nextInt(of.length)];
    }

    public static void main(String[] args) throws ReflectiveOperationException {
        int runs = Integer.getInteger("runs", 400);
        for (int seed = 0; seed < runs; seed++) {
            if (!new ModelTest(seed).run()) break;
        }
        Check.end();
    }

    private boolean run() throws ReflectiveOperationException {
        boolean fine = true;
        for (int i = 20 + random.nextInt(60); fine && i > 0; i--) fine = call(LAYING);
        while (fine && called < MOST_CALLS - CALLS_TO_ASK) fine = random.nextInt(20) == 0 ? text() : call(usual);
        while (fine && called < MOST_CALLS) fine = call(ASKING);
        return fine;
    }

    private boolean text() throws ReflectiveOperationException {
        StringBuilder text = new StringBuilder();
        int clauses = random.nextInt(10) == 0 ? 9 : random.nextInt(4);
        for (int c = 0; c < clauses; c++) text.append(clause());
        if (text.length() > 0 && random.nextInt(3) == 0) {
            int at = random.nextInt(text.length());
            text.replace(at, Math.min(text.length(), at + random.nextInt(3)), PIECES[random.nextInt(PIECES.length)]);
        }
        for (int at = 0; at < text.length(); at += 8) {
            long packed = random.nextLong();
            int n = Math.min(8, text.length() - at);
            for (int i = 0; i < n; i++) packed = packed << 8 | text.charAt(at + i);
            if (!compare(method("feed"), n, packed)) return false;
        }
        return compare(method("rule"), number("rule", 0)) && compare(method("fault"));
    }

    private String clause() {
        String blank = random.nextInt(4) == 0 ? " " : "";
        int kind = random.nextInt(6);
        if (kind == 5) {
            StringBuilder need = new StringBuilder("need " + PlainDays.GOODS.get(random.nextInt(3)) + " ");
            for (int s = random.nextInt(3); s >= 0; s--) {
                need.append(PlainDays.STAMPS.get(random.nextInt(4))).append(blank).append(s == 0 ? ";" : ",").append(blank);
            }
            return need.toString();
        }
        int[] bounds = {100, 100, 101, 9, 3};
        int value = (kind == 3 ? 1 : 0) + random.nextInt(bounds[kind]);
        if (kind < 2 && random.nextInt(3) > 0) value %= 12;
        if (random.nextInt(25) == 0) value *= 40;
        return blank + PlainDays.NUMBERED.get(kind) + " " + blank + value + blank + ";" + blank;
    }

    private Method[] method(String name) {
        return calls.get(name);
    }

    private boolean call(List<String> names) throws ReflectiveOperationException {
        String name = names.get(random.nextInt(names.size()));
        // The plain game goes through every row of moves.
        if (name.equals("game") && random.nextInt(4) > 0) return true;
        Method[] pair = method(name);
        Class<?>[] types = pair[0].getParameterTypes();
        Object[] arguments = new Object[types.length];
        for (int i = 0; i < types.length; i++) {
            if (types[i] == boolean.class) arguments[i] = random.nextBoolean();
            else if (types[i] == long.class) arguments[i] = random.nextLong();
            else arguments[i] = number(name, i);
        }
        return compare(pair, arguments);
    }

    private boolean compare(Method[] pair, Object... arguments) throws ReflectiveOperationException {
        if (called == MOST_CALLS) return true;
        called++;
        Object got = pair[0].invoke(own, arguments);
        Object want = pair[1].invoke(plain, arguments);
        String call = pair[0].getName() + java.util.Arrays.toString(arguments);
        history.append(call).append(" = ").append(got).append('\n');
        Check.due(call, got, want);
        if (got.equals(want)) return true;
        System.out.println(history);
        return false;
    }

    /** In a big land big amounts, in a small one those that are soon used up. */
    private int upTo(int few, int some, int many) {
        return new int[] {few, some, many}[size];
    }

    private int number(String name, int i) {
        if (random.nextInt(100) < wildness) return EXTREMES[random.nextInt(EXTREMES.length)];
        if (i == HOUR_AT.getOrDefault(name, -1)) return hour(name);
        int[] bounds = switch (name) {
            case "road" -> new int[] {towns, towns, one(3, 31)};
            case "away" -> new int[] {towns, towns};
            case "store" -> new int[] {towns, goods, upTo(30, 400, 10000)};
            case "need" -> new int[] {towns, goods, upTo(3, 30, 100)};
            case "members" -> new int[] {unions, towns, upTo(4, 60, 1000)};
            case "purse" -> new int[] {unions, upTo(8, 30, 1000)};
            case "fund" -> new int[] {unions, upTo(20, 800, 100000)};
            case "out" -> new int[] {unions, towns, 4};
            case "town" -> new int[] {towns, 9};
            case "count" -> new int[] {14};
            // Half of all orders are calls.
            case "order" -> new int[] {one(1, 4), unions, towns};
            case "reach" -> new int[] {Math.max(1, plain.orders.size()), towns};
            case "late" -> new int[] {Math.max(1, plain.orders.size())};
            case "called" -> new int[] {unions, towns};
            case "holds" -> new int[] {unions, towns, 0, 2};
            case "feed" -> new int[] {9};
            case "force" -> new int[] {7};
            case "load" -> new int[] {goods, upTo(10, 60, 1000), towns, towns};
            case "stamp" -> new int[] {Math.max(1, plain.loads.size()), 4};
            case "told" -> new int[] {Math.max(1, plain.loads.size()), 9};
            case "clash" -> new int[] {8};
            case "go" -> new int[] {pace};
            // A leave may be given for one hour.
            case "leave" -> new int[] {speakers, speakers, span, 2 * span};
            case "binds" -> new int[] {one(1 << speakers, 8), 2 * span, speakers};
            case "last" -> new int[] {unions};
            case "lending" -> new int[] {64};
            case "table" -> new int[] {3, 3};
            case "game" -> new int[] {7, one(20, 150, 1000), 2};
            case "judge" -> new int[] {7, one(20, 300, 1000), one(9, 81, 531441)};
            default -> throw new IllegalStateException(name);
        };
        if (name.equals("table") && i == 2) return random.nextInt(199) - 99;
        if (name.equals("lending") && random.nextBoolean()) return random.nextInt(1 << unions);
        return random.nextInt(40) == 0 ? bounds[i] : random.nextInt(bounds[i]);
    }

    /** Orders and loads are for hours to come; questions and rules are about those behind, too. */
    private int hour(String name) {
        if (random.nextInt(30) == 0) return one(0, 239, 240, 241, plain.now - 1);
        int ahead = random.nextInt(span);
        if (name.equals("order") || name.equals("load")) return Math.min(240, plain.now + ahead);
        return Math.max(0, Math.min(240, plain.now + (random.nextBoolean() ? ahead : -ahead)));
    }
}
