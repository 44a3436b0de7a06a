import java.util.ArrayList;
import java.util.Comparator;
import java.util.List;

/**
 * The document once more, as plainly as can be and with nothing kept that can be asked anew, but for ways, which are asked for
 * too often: ModelTest sets it beside the class.
 */
final class PlainDays {
    static final int NONE = -1, UNKNOWN = -1001, OUTSIDE = -1002, NOT = -1003, FULL = -1004;
    static final List<String> GOODS = List.of("bread", "milk", "coal");
    static final List<String> STAMPS = List.of("owners", "council", "union", "state");
    static final List<String> NUMBERED = List.of("pay", "cost", "fear", "slow", "strike");

    record Road(int a, int b, int hours) { }
    record Order(int number, int kind, int union, int town, int hour) { }
    record Clause(String word, int good, int value) { }
    record Rule(int number, int hour, List<Clause> clauses) { }
    record Leave(int a, int b, int from, int to, boolean sure) { }
    record Token(String text, int at) { }

    static final class Load {
        int good, n, from, to, hour, stamps, state, left = NONE, comes = NONE;
    }

    final List<Road> roads = new ArrayList<>();
    List<Order> orders = new ArrayList<>();
    final List<Rule> rules = new ArrayList<>();
    final List<Load> loads = new ArrayList<>();
    final List<Leave> leaves = new ArrayList<>();
    final int[][] stores = new int[8][3], handStores = new int[8][3], needs = new int[8][3];
    final int[][] hunger = new int[8][3], lacked = new int[8][3];
    final int[][] members = new int[6][8], outs = new int[6][8], purses = new int[6][8], back = new int[6][8];
    final int[] funds = new int[6], handFunds = new int[6], handPurses = new int[6];
    final int[][] table = new int[3][3];
    private final int[][] ways = new int[8][];
    /** How many roads there were when ways were asked for last. */
    private int roadsOfWays = NONE;
    String text = "";
    int faultAt = NONE;
    int now = 0;

    PlainDays() {
        for (int[] row : lacked) java.util.Arrays.fill(row, NONE);
        for (int[] row : purses) java.util.Arrays.fill(row, 20);
        java.util.Arrays.fill(handPurses, 20);
    }

    static boolean in(int v, int least, int most) {
        return least <= v && v <= most;
    }

    int road(int a, int b, int hours) {
        if (!in(a, 0, 7) || !in(b, 0, 7)) return UNKNOWN;
        if (a == b || !in(hours, 1, 30)) return OUTSIDE;
        if (roads.size() == 14) return FULL;
        roads.add(new Road(a, b, hours));
        return roads.size();
    }

    int away(int a, int b) {
        if (!in(a, 0, 7) || !in(b, 0, 7)) return UNKNOWN;
        if (roadsOfWays != roads.size()) {
            for (int from = 0; from < 8; from++) ways[from] = waysFrom(from);
            roadsOfWays = roads.size();
        }
        return ways[a][b] == 9999 ? NONE : ways[a][b];
    }

    private int[] waysFrom(int a) {
        int[] far = new int[8];
        java.util.Arrays.fill(far, 9999);
        far[a] = 0;
        for (int round = 0; round < 8; round++) {
            for (Road r : roads) {
                far[r.b] = Math.min(far[r.b], far[r.a] + r.hours);
                far[r.a] = Math.min(far[r.a], far[r.b] + r.hours);
            }
        }
        return far;
    }

    int store(int town, int good, int v) {
        if (!in(town, 0, 7)) return UNKNOWN;
        if (!in(good, 0, 2) || !in(v, 0, 9999)) return OUTSIDE;
        int was = stores[town][good];
        stores[town][good] = handStores[town][good] = v;
        return was;
    }

    int need(int town, int good, int v) {
        if (!in(town, 0, 7)) return UNKNOWN;
        if (!in(good, 0, 2) || !in(v, 0, 99)) return OUTSIDE;
        int was = needs[town][good];
        needs[town][good] = v;
        return was;
    }

    int members(int union, int town, int n) {
        if (!in(union, 0, 5) || !in(town, 0, 7)) return UNKNOWN;
        if (!in(n, 0, 999)) return OUTSIDE;
        int was = members[union][town];
        members[union][town] = n;
        if (outs[union][town] > n) outs[union][town] = n;
        return was;
    }

    int purse(int union, int v) {
        if (!in(union, 0, 5)) return UNKNOWN;
        if (!in(v, 0, 999)) return OUTSIDE;
        java.util.Arrays.fill(purses[union], v);
        handPurses[union] = v;
        return 1;
    }

    int fund(int union, int v) {
        if (!in(union, 0, 5)) return UNKNOWN;
        if (!in(v, 0, 99999)) return OUTSIDE;
        int was = funds[union];
        funds[union] = handFunds[union] = v;
        return was;
    }

    int out(int union, int town, int what) {
        if (!in(union, 0, 5) || !in(town, 0, 7)) return UNKNOWN;
        if (!in(what, 0, 3)) return OUTSIDE;
        return List.of(members, outs, purses, back).get(what)[union][town];
    }

    int town(int t, int what) {
        if (!in(t, 0, 7)) return UNKNOWN;
        if (!in(what, 0, 8)) return OUTSIDE;
        return List.of(stores, hunger, lacked).get(what / 3)[t][what % 3];
    }

    int count(int what) {
        if (!in(what, 0, 13)) return OUTSIDE;
        int state = what - 4;
        int[] all = {now, roads.size(), orders.size(), loads.size(), 0, 0, 0, 0, rules.size(),
            total(outs), total(hunger), leaves.size(), text.length(), total(back)};
        if (in(state, 0, 3)) return (int) loads.stream().filter(l -> l.state == state).count();
        return all[what];
    }

    static int total(int[][] rows) {
        int sum = 0;
        for (int[] row : rows) for (int v : row) sum += v;
        return sum;
    }

    int order(int kind, int union, int town, int hour) {
        if (!in(union, 0, 5) || !in(town, 0, 7)) return UNKNOWN;
        if (!in(kind, 0, 3) || !in(hour, now, 240)) return OUTSIDE;
        if (orders.size() == 40) return FULL;
        orders.add(new Order(orders.size(), kind, union, town, hour));
        return orders.size() - 1;
    }

    int reach(int o, int town) {
        if (!in(o, 0, orders.size() - 1) || !in(town, 0, 7)) return UNKNOWN;
        int way = away(orders.get(o).town, town);
        return way == NONE ? NONE : orders.get(o).hour + way;
    }

    int late(int o) {
        if (!in(o, 0, orders.size() - 1)) return UNKNOWN;
        Order mine = orders.get(o);
        int set = 0;
        for (int t = 0; t < 8; t++) {
            int comes = reach(o, t);
            for (Order other : orders) {
                if (comes == NONE || other.union != mine.union) continue;
                if (other.kind == mine.kind || other.kind / 2 != mine.kind / 2) continue;
                if (other.hour > mine.hour && other.hour <= comes) set |= 1 << t;
            }
        }
        return set;
    }

    int called(int union, int town, int hour) {
        if (!in(union, 0, 5) || !in(town, 0, 7)) return UNKNOWN;
        if (!in(hour, 0, 240)) return OUTSIDE;
        int call = holds(union, town, hour, 0);
        int ban = holds(union, town, hour, 1);
        return call != NONE && orders.get(call).kind == 0 && (ban == NONE || orders.get(ban).kind == 3) ? 1 : 0;
    }

    int holds(int union, int town, int hour, int pair) {
        if (!in(union, 0, 5) || !in(town, 0, 7)) return UNKNOWN;
        if (!in(hour, 0, 240) || !in(pair, 0, 1)) return OUTSIDE;
        return orders.stream()
            .filter(o -> o.union == union && o.kind / 2 == pair)
            .filter(o -> reach(o.number, town) != NONE && reach(o.number, town) <= hour)
            .max(Comparator.comparingInt((Order o) -> reach(o.number, town)).thenComparingInt(o -> o.number))
            .map(o -> o.number).orElse(NONE);
    }

    int feed(int n, long bytes) {
        if (!in(n, 1, 8)) return OUTSIDE;
        if (text.length() + n > 160) return FULL;
        for (int i = n - 1; i >= 0; i--) text += (char) (bytes >>> 8 * i & 255);
        return text.length();
    }

    int rule(int hour) {
        if (!in(hour, 0, 240)) return OUTSIDE;
        if (rules.size() == 8) return FULL;
        List<Clause> clauses = new ArrayList<>();
        int fault = read(clauses);
        text = "";
        if (fault != 0) return -10 - fault;
        faultAt = NONE;
        rules.add(new Rule(rules.size(), hour, clauses));
        return rules.size() - 1;
    }

    /** Runs of letters, runs of figures, single signs; an empty one for the end. */
    private List<Token> tokens() {
        List<Token> all = new ArrayList<>();
        java.util.regex.Matcher m = java.util.regex.Pattern.compile("[a-z]+|[0-9]+|[^ ]", java.util.regex.Pattern.DOTALL).matcher(text);
        while (m.find()) all.add(new Token(m.group(), m.start()));
        all.add(new Token("", text.length()));
        return all;
    }

    private int read(List<Clause> clauses) {
        List<Token> tokens = tokens();
        int k = 0;
        while (!tokens.get(k).text.isEmpty()) {
            Token head = tokens.get(k++);
            boolean need = head.text.equals("need");
            if (!need && !NUMBERED.contains(head.text)) return fault(1, head);
            if (clauses.size() == 8) return fault(5, head);
            Token next = tokens.get(k);
            if (!need) {
                int bad = number(head.text, next.text);
                if (bad != 0) return fault(bad, next);
                clauses.add(new Clause(head.text, NONE, Integer.parseInt(next.text)));
                k++;
            } else {
                int good = GOODS.indexOf(next.text);
                if (good < 0) return fault(1, next);
                int set = 0;
                do {
                    k++;
                    Token stamp = tokens.get(k++);
                    int s = STAMPS.indexOf(stamp.text);
                    if (s < 0) return fault(1, stamp);
                    if ((set & 1 << s) != 0) return fault(4, stamp);
                    set |= 1 << s;
                } while (tokens.get(k).text.equals(","));
                clauses.add(new Clause("need", good, set));
            }
            if (!tokens.get(k).text.equals(";")) return fault(1, tokens.get(k));
            k++;
        }
        return 0;
    }

    private int number(String word, String figures) {
        if (!figures.matches("[0-9]+")) return 1;
        if (figures.length() > 3) return 2;
        int v = Integer.parseInt(figures);
        if (word.equals("strike")) return v < rules.size() ? 0 : 3;
        int most = word.equals("fear") ? 100 : word.equals("slow") ? 9 : 99;
        return in(v, word.equals("slow") ? 1 : 0, most) ? 0 : 2;
    }

    private int fault(int number, Token where) {
        faultAt = where.at;
        return number;
    }

    int fault() {
        return faultAt;
    }

    int force(int what, int hour) {
        if (!in(what, 0, 6) || !in(hour, 0, 240)) return OUTSIDE;
        int[] all = {4, 2, 12, 2, 5, 30, 2};
        rules.stream().filter(r -> counts(r, hour))
            .sorted(Comparator.comparingInt((Rule r) -> r.hour).thenComparingInt(r -> r.number))
            .forEach(r -> r.clauses.forEach(c -> {
                if (c.word.equals("need")) all[c.good] = c.value;
                else if (!c.word.equals("strike")) all[3 + NUMBERED.indexOf(c.word)] = c.value;
            }));
        return all[what];
    }

    private boolean counts(Rule r, int hour) {
        if (r.hour > hour) return false;
        return rules.stream().skip(r.number + 1).noneMatch(s -> counts(s, hour)
            && s.clauses.stream().anyMatch(c -> c.word.equals("strike") && c.value == r.number));
    }

    int load(int good, int n, int from, int to, int hour) {
        if (!in(from, 0, 7) || !in(to, 0, 7)) return UNKNOWN;
        if (!in(good, 0, 2) || !in(n, 1, 999) || from == to || !in(hour, now, 240)) return OUTSIDE;
        if (loads.size() == 40) return FULL;
        Load l = new Load();
        l.good = good;
        l.n = n;
        l.from = from;
        l.to = to;
        l.hour = hour;
        loads.add(l);
        return loads.size() - 1;
    }

    int stamp(int l, int committee) {
        if (!in(l, 0, loads.size() - 1)) return UNKNOWN;
        if (!in(committee, 0, 3)) return OUTSIDE;
        Load load = loads.get(l);
        if ((load.stamps & 1 << committee) != 0 || load.state != 0) return NOT;
        load.stamps += 1 << committee;
        return load.stamps;
    }

    int told(int l, int what) {
        if (!in(l, 0, loads.size() - 1)) return UNKNOWN;
        if (!in(what, 0, 8)) return OUTSIDE;
        Load a = loads.get(l);
        return new int[] {a.good, a.n, a.from, a.to, a.hour, a.stamps, a.state, a.left, a.comes}[what];
    }

    int clash(int i) {
        List<Integer> all = new ArrayList<>();
        for (int l = 0; l < loads.size(); l++) {
            Load a = loads.get(l);
            int need = force(a.good, now);
            if (a.state == 0 && (a.stamps & need) != 0 && (a.stamps & need) != need) all.add(l);
        }
        return in(i, 0, all.size() - 1) ? all.get(i) : NONE;
    }

    int words() {
        int best = 15;
        for (int set = 14; set >= 0; set--) {
            boolean all = true;
            for (Load a : loads) {
                int need = force(a.good, now);
                if (a.state != 1 && a.state != 2 && ((a.stamps | set) & need) != need) all = false;
            }
            if (all && Integer.bitCount(set) <= Integer.bitCount(best)) best = set;
        }
        return best;
    }

    int go(int n) {
        if (!in(n, 0, 100)) return OUTSIDE;
        if (now + n > 240) return NOT;
        int before = total(hunger);
        for (int i = 0; i < n; i++) hour();
        return total(hunger) - before;
    }

    private void hour() {
        int h = now;
        for (Load l : loads) {
            if (l.state != 1 || l.comes != h) continue;
            l.state = 2;
            stores[l.to][l.good] = Math.min(9999, stores[l.to][l.good] + l.n);
        }
        for (int t = 0; t < 8; t++) {
            for (int u = 0; u < 6; u++) {
                if (called(u, t, h) == 0) outs[u][t] = 0;
                else if (h == 0 || called(u, t, h - 1) == 0) outs[u][t] = members[u][t];
            }
        }
        if (h != 0 && h % 24 == 0) payDay(h);
        for (Load l : loads) {
            int need = force(l.good, h);
            if (l.state != 0 || l.hour > h || (l.stamps & need) != need) continue;
            int way = away(l.from, l.to);
            if (way == NONE) l.state = 3;
            if (way == NONE || stores[l.from][l.good] < l.n) continue;
            stores[l.from][l.good] -= l.n;
            l.state = 1;
            l.left = h;
            l.comes = h + way * (outs[0][l.from] > 0 ? force(6, h) : 1);
        }
        for (int t = 0; t < 8; t++) {
            for (int g = 0; g < 3; g++) {
                int used = Math.min(stores[t][g], needs[t][g]);
                stores[t][g] -= used;
                hunger[t][g] += needs[t][g] - used;
                if (used < needs[t][g] && lacked[t][g] == NONE) lacked[t][g] = h;
            }
        }
        now++;
    }

    private void payDay(int h) {
        int pay = force(3, h);
        for (int u = 0; u < 6; u++) {
            for (int t = 0; t < 8; t++) {
                if (outs[u][t] == 0) continue;
                boolean all = true;
                for (int head = 0; head < outs[u][t]; head++) {
                    if (funds[u] >= pay) funds[u] -= pay;
                    else all = false;
                }
                purses[u][t] -= force(4, h);
                if (all) purses[u][t] += pay;
                if (purses[u][t] >= 0) continue;
                purses[u][t] = 0;
                int going = Math.max(1, outs[u][t] * force(5, h) / 100);
                outs[u][t] -= going;
                back[u][t] += going;
            }
        }
    }

    int leave(int a, int b, int from, int to, boolean sure) {
        if (!in(a, 0, 7) || !in(b, 0, 7) || a == b) return OUTSIDE;
        if (!in(from, 0, 240) || !in(to, 0, 240) || to < from) return OUTSIDE;
        if (leaves.size() == 24) return FULL;
        leaves.add(new Leave(a, b, from, to, sure));
        return leaves.size() - 1;
    }

    int binds(int set, int hour, int b) {
        if (!in(set, 0, 255) || !in(hour, 0, 240) || !in(b, 0, 7)) return OUTSIDE;
        boolean surely = false;
        boolean perhaps = false;
        for (int s = 0; s < 8; s++) {
            if ((set & 1 << s) == 0) continue;
            surely |= leads(s, b, hour, true, 0);
            perhaps |= leads(s, b, hour, false, 0);
        }
        return surely ? 2 : perhaps ? 1 : 0;
    }

    private boolean leads(int a, int b, int hour, boolean sure, int seen) {
        if (a == b) return true;
        if ((seen & 1 << a) != 0) return false;
        for (Leave v : leaves) {
            boolean counts = v.a == a && in(hour, v.from, v.to) && (v.sure || !sure);
            if (counts && leads(v.b, b, hour, sure, seen | 1 << a)) return true;
        }
        return false;
    }

    int last(int union) {
        if (!in(union, 0, 5)) return UNKNOWN;
        return lending(1 << union);
    }

    int lending(int set) {
        if (!in(set, 0, 63)) return UNKNOWN;
        int fund = 0;
        int daily = 0;
        for (int u = 0; u < 6; u++) {
            if ((set & 1 << u) == 0) continue;
            fund += funds[u];
            for (int m : members[u]) daily += m * force(3, now);
        }
        int days = 0;
        while (days < 999 && daily * (days + 1) <= fund) days++;
        return days;
    }

    int table(int a, int b, int v) {
        if (!in(a, 0, 2) || !in(b, 0, 2) || !in(v, -99, 99)) return OUTSIDE;
        int was = table[a][b];
        table[a][b] = v;
        return was;
    }

    int game(int n, int e, int what) {
        if (!in(n, 1, 6) || !in(e, 1, 999) || !in(what, 0, 1)) return OUTSIDE;
        int best = 0;
        for (int a = 1; a < 3; a++) if (answer(a, 0, n, e) > answer(best, 0, n, e)) best = a;
        return what == 1 ? best : answer(best, 0, n, e);
    }

    private int answer(int a, int score, int days, int e) {
        int least = Integer.MAX_VALUE;
        for (int b = 0; b < 3; b++) {
            int next = score + table[a][b];
            int worth = next;
            if (days > 1 && next > -e && next < e) {
                worth = Integer.MIN_VALUE;
                for (int c = 0; c < 3; c++) worth = Math.max(worth, answer(c, next, days - 1, e));
            }
            least = Math.min(least, worth);
        }
        return least;
    }

    int judge(int n, int e, int row) {
        if (!in(n, 1, 6) || !in(e, 1, 999) || !in(row, 0, (int) Math.pow(9, n) - 1)) return OUTSIDE;
        String moves = new StringBuilder(Integer.toString(row, 3)).reverse() + "000000000000";
        int score = 0;
        for (int d = 0; d < n && score > -e && score < e; d++) {
            score += table[moves.charAt(2 * d) - '0'][moves.charAt(2 * d + 1) - '0'];
        }
        return score;
    }

    int beside(boolean at) {
        PlainDays other = new PlainDays();
        other.roads.addAll(roads);
        other.rules.addAll(rules);
        int first = orders.stream().filter(o -> o.kind == 0).mapToInt(o -> o.hour).min().orElse(0);
        for (Order o : orders) {
            other.orders.add(at && o.kind == 0 ? new Order(o.number, 0, o.union, o.town, first) : o);
        }
        for (Load l : loads) {
            other.load(l.good, l.n, l.from, l.to, l.hour);
            other.loads.get(other.loads.size() - 1).stamps = l.stamps;
        }
        for (int t = 0; t < 8; t++) {
            for (int g = 0; g < 3; g++) {
                other.store(t, g, handStores[t][g]);
                other.need(t, g, needs[t][g]);
            }
            for (int u = 0; u < 6; u++) other.members(u, t, members[u][t]);
        }
        for (int u = 0; u < 6; u++) {
            other.fund(u, handFunds[u]);
            other.purse(u, handPurses[u]);
        }
        for (int h = 0; h < now; h++) other.hour();
        return total(other.hunger);
    }
}
