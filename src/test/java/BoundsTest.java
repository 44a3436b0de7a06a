import java.util.List;

/**
 * Every number of every call: the least and the greatest that it may be, the ones just outside them, and far outside;
 * of two that are wrong the refusal that comes first; the same where all is full; and that nothing has changed.
 */
public final class BoundsTest {
    private static final int U = NineDays.UNKNOWN;
    private static final int O = NineDays.OUTSIDE;
    /** The hour up to which the land of these tests is stepped. */
    private static final int NOW = 30;

    /** A number from least to most, one that is fine, and the refusal of what is out of its bounds. */
    private record Bound(int least, int most, int fine, int refusal) {
        int[] outside() {
            return new int[] {least - 1, most + 1, least - 65536, most + 65536, Integer.MIN_VALUE, Integer.MAX_VALUE};
        }
    }

    private interface Form {
        int of(NineDays x, int[] a);
    }

    private record Call(String name, Form form, Bound... bounds) {
        int[] fine() {
            int[] all = new int[bounds.length];
            for (int i = 0; i < all.length; i++) all[i] = bounds[i].fine;
            return all;
        }
    }

    private static final List<Call> CALLS = List.of(
        new Call("road", (x, a) -> x.road(a[0], a[1], a[2]), town(3), town(4), number(1, 30, 5)),
        new Call("away", (x, a) -> x.away(a[0], a[1]), town(3), town(4)),
        new Call("store", (x, a) -> x.store(a[0], a[1], a[2]), town(0), number(0, 2, 0), number(0, 9999, 5)),
        new Call("need", (x, a) -> x.need(a[0], a[1], a[2]), town(1), number(0, 2, 0), number(0, 99, 5)),
        new Call("members", (x, a) -> x.members(a[0], a[1], a[2]), union(0), town(0), number(0, 999, 5)),
        new Call("purse", (x, a) -> x.purse(a[0], a[1]), union(0), number(0, 999, 5)),
        new Call("fund", (x, a) -> x.fund(a[0], a[1]), union(0), number(0, 99999, 5)),
        new Call("out", (x, a) -> x.out(a[0], a[1], a[2]), union(2), town(3), number(0, 3, 1)),
        new Call("town", (x, a) -> x.town(a[0], a[1]), town(3), number(0, 8, 4)),
        new Call("count", (x, a) -> x.count(a[0]), number(0, 13, 4)),
        new Call("order", (x, a) -> x.order(a[0], a[1], a[2], a[3]), number(0, 3, 1), union(2), town(3), number(NOW, 240, 99)),
        new Call("reach", (x, a) -> x.reach(a[0], a[1]), known(0, 4, 2), town(3)),
        new Call("late", (x, a) -> x.late(a[0]), known(0, 4, 2)),
        new Call("called", (x, a) -> x.called(a[0], a[1], a[2]), union(2), town(3), number(0, 240, 99)),
        new Call("holds", (x, a) -> x.holds(a[0], a[1], a[2], a[3]), union(2), town(3), number(0, 240, 99), number(0, 1, 0)),
        new Call("feed", (x, a) -> x.feed(a[0], 0x2020202020202020L), number(1, 8, 3)),
        new Call("rule", (x, a) -> x.rule(a[0]), number(0, 240, 99)),
        new Call("force", (x, a) -> x.force(a[0], a[1]), number(0, 6, 4), number(0, 240, 99)),
        new Call("load", (x, a) -> x.load(a[0], a[1], a[2], a[3], a[4]),
            number(0, 2, 1), number(1, 999, 5), town(3), town(4), number(NOW, 240, 99)),
        new Call("stamp", (x, a) -> x.stamp(a[0], a[1]), known(0, 6, 2), number(0, 3, 1)),
        new Call("told", (x, a) -> x.told(a[0], a[1]), known(0, 6, 2), number(0, 8, 3)),
        new Call("go", (x, a) -> x.go(a[0]), number(0, 100, 5)),
        new Call("leave", (x, a) -> x.leave(a[0], a[1], a[2], a[3], true),
            number(0, 7, 3), number(0, 7, 4), number(0, 240, 10), number(10, 240, 240)),
        new Call("binds", (x, a) -> x.binds(a[0], a[1], a[2]), number(0, 255, 9), number(0, 240, 99), number(0, 7, 3)),
        new Call("last", (x, a) -> x.last(a[0]), union(2)),
        new Call("lending", (x, a) -> x.lending(a[0]), known(0, 63, 9)),
        new Call("table", (x, a) -> x.table(a[0], a[1], a[2]), number(0, 2, 1), number(0, 2, 1), number(-99, 99, 5)),
        new Call("game", (x, a) -> x.game(a[0], a[1], a[2]), number(1, 6, 2), number(1, 999, 9), number(0, 1, 0)),
        new Call("judge", (x, a) -> x.judge(a[0], a[1], a[2]), number(1, 6, 2), number(1, 999, 9), number(0, 80, 0)));

    private static Bound town(int fine) {
        return new Bound(0, 7, fine, U);
    }

    private static Bound union(int fine) {
        return new Bound(0, 5, fine, U);
    }

    private static Bound known(int least, int most, int fine) {
        return new Bound(least, most, fine, U);
    }

    private static Bound number(int least, int most, int fine) {
        return new Bound(least, most, fine, O);
    }

    public static void main(String[] args) {
        for (Call call : CALLS) {
            within(call);
            outside(call);
            twoOutside(call);
        }
        likeOnes();
        fullness();
        outsideAheadOfFull();
        outsideAheadOfNot();
        Check.end();
    }

    /** Some of everything, at hour 30: five orders, seven loads, two rules, three leaves, six bytes. */
    static void busy(NineDays x) {
        x.road(0, 1, 3);
        x.road(1, 2, 4);
        x.road(0, 7, 30);
        for (int t = 0; t < 8; t++) {
            x.store(t, t % 3, 400 + t);
            x.need(t, t % 3, 1);
            x.members(t % 6, t, 1 + t);
        }
        for (int u = 0; u < 6; u++) x.fund(u, 3 + 30 * u);
        for (int m = 0; m < 9; m++) x.table(m / 3, m % 3, 5 * m - 20);
        x.order(0, 0, 0, 0);
        x.order(0, 1, 1, 5);
        x.order(2, 0, 2, 60);
        x.order(3, 0, 2, 64);
        x.order(1, 1, 0, 50);
        texts(x);
        x.leave(0, 1, 0, 99, true);
        x.leave(1, 2, 50, 240, false);
        x.leave(6, 0, 30, 130, true);
        loads(x);
        x.go(NOW);
    }

    private static void texts(NineDays x) {
        Check.feed(x, "pay 3;cost 4;");
        x.rule(20);
        Check.feed(x, "need coal owners;slow 3;");
        x.rule(60);
        Check.feed(x, "pay 1;payy");
        x.rule(0);
        Check.feed(x, "cost 7");
    }

    /**
     * The one head out in town 0 is so by a coin in hour 24, and goes back in hour 48: two loads are slow by it or not,
     * so that beside() tells its purse and its fund as they were set by hand. The bread of town 0 lasts up to hour 59.
     */
    private static void loads(NineDays x) {
        x.store(0, 0, 760);
        x.purse(0, 2);
        x.purse(1, 3);
        x.need(1, 0, 2);
        x.need(2, 0, 1);
        x.load(0, 7, 0, 1, 35);
        x.load(0, 400, 0, 1, 26);
        x.load(2, 7, 2, 3, 37);
        x.load(0, 300, 0, 2, 50);
        x.load(1, 3, 1, 4, 10);
        x.load(2, 7, 4, 5, 38);
        x.load(1, 7, 6, 7, 240);
        x.stamp(1, 2);
        x.stamp(3, 2);
        x.stamp(4, 1);
        x.stamp(5, 3);
    }

    /** As many of everything as there may be; beside() tells the purse and the fund of union 0 here, too. */
    static void full(NineDays x) {
        for (int r = 0; r < 14; r++) x.road(r % 7, 7, 1 + r);
        for (int o = 0; o < 40; o++) x.order(o % 4, o == 0 ? 0 : 1 + o % 5, o % 8, 5 * o);
        for (int l = 0; l < 40; l++) x.load(l % 3, 100 + l, l % 8, (l + 1 + l / 24) % 8, 25 + l);
        for (int v = 0; v < 24; v++) x.leave(v % 8, (v + 1 + v / 8) % 8, v, 10 * v, v % 2 == 0);
        for (int r = 0; r < 8; r++) {
            x.feed(6, 0x70617920003bL + 256 * ('0' + Math.min(9, 4 + r)));
            x.rule(30 * r);
        }
        for (int b = 0; b < 20; b++) x.feed(8, 0x2020202020202020L);
        x.members(0, 0, 1);
        x.members(1, 1, 9);
        x.purse(0, 2);
        x.fund(0, 4);
        x.store(0, 0, 279);
        x.store(1, 1, 99);
        for (int t = 0; t < 3; t++) x.need(t, 0, 1);
        x.stamp(0, 2);
        x.stamp(24, 2);
        x.stamp(1, 0);
        x.table(0, 0, 7);
    }

    private static boolean isRefusal(int answer) {
        return answer == U || answer == O || answer == NineDays.NOT || answer == NineDays.FULL;
    }

    private static String text(Call call, int[] a) {
        return call.name + java.util.Arrays.toString(a);
    }

    private static void within(Call call) {
        for (int i = 0; i < call.bounds.length; i++) {
            for (int v : new int[] {call.bounds[i].least, call.bounds[i].most, call.bounds[i].fine}) {
                int[] a = call.fine();
                a[i] = v;
                NineDays x = new NineDays();
                busy(x);
                Check.due(text(call, a) + " is refused", isRefusal(call.form.of(x, a)), false);
            }
        }
    }

    private static final Refused.Setup BUSY = BoundsTest::busy;
    private static final Refused.Setup FULL = BoundsTest::full;

    private static void outside(Call call) {
        for (int i = 0; i < call.bounds.length; i++) {
            for (int v : call.bounds[i].outside()) {
                int[] a = call.fine();
                a[i] = v;
                Refused.due(text(call, a), BUSY, x -> call.form.of(x, a), call.bounds[i].refusal);
            }
        }
    }

    private static void twoOutside(Call call) {
        for (int i = 0; i < call.bounds.length; i++) {
            for (int j = i + 1; j < call.bounds.length; j++) {
                int want = call.bounds[i].refusal == U || call.bounds[j].refusal == U ? U : O;
                for (int k = 0; k < 4; k++) {
                    int[] a = call.fine();
                    a[i] = call.bounds[i].outside()[k % 2];
                    a[j] = call.bounds[j].outside()[k / 2];
                    Refused.due(text(call, a), BUSY, x -> call.form.of(x, a), want);
                }
            }
        }
    }

    /** "two unlike TOWNS", "to another one", "a, b 0 .. 7, unlike": one twice is OUTSIDE, but one that there is not UNKNOWN. */
    private static void likeOnes() {
        for (int k = -1; k <= 8; k++) {
            int t = k;
            boolean is = 0 <= t && t <= 7;
            Refused.due("road of a town with itself " + t, BUSY, x -> x.road(t, t, 5), is ? O : U);
            Refused.due("load of a town to itself " + t, BUSY, x -> x.load(1, 5, t, t, 99), is ? O : U);
            Refused.due("leave of one for itself " + t, BUSY, x -> x.leave(t, t, 0, 240, true), O);
        }
        Refused.due("a leave that ends an hour before it begins", BUSY, x -> x.leave(1, 2, 240, 239, true), O);
        Refused.due("a leave that ends before it begins", BUSY, x -> x.leave(1, 2, 1, 0, false), O);
    }

    /** "14 at most", "40 at most", "8 at most", "24 at most", "160 bytes at most". */
    private static void fullness() {
        int f = NineDays.FULL;
        Refused.due("a fifteenth road", FULL, x -> x.road(0, 1, 1), f);
        Refused.due("a forty-first order", FULL, x -> x.order(0, 0, 0, 0), f);
        Refused.due("a forty-first load", FULL, x -> x.load(0, 1, 0, 1, 0), f);
        Refused.due("a twenty-fifth leave", FULL, x -> x.leave(0, 1, 0, 240, true), f);
        Refused.due("a ninth rule", FULL, x -> x.rule(0), f);
        for (int k = 1; k <= 8; k++) {
            int n = k;
            Refused.due("bytes behind 160: " + n, FULL, x -> x.feed(n, 0x2020202020202020L), f);
        }
        NineDays x = new NineDays();
        full(x);
        int[] want = {0, 14, 40, 40, 40, 0, 0, 0, 8, 0, 0, 24, 160, 0};
        for (int w = 0; w < 14; w++) Check.due("full: count " + w, x.count(w), want[w]);
    }

    private static void outsideAheadOfFull() {
        for (Call call : CALLS) {
            if (!List.of("road", "order", "load", "leave", "rule", "feed").contains(call.name)) continue;
            for (int i = 0; i < call.bounds.length; i++) {
                int[] a = call.fine();
                for (int v : new int[] {Math.min(-1, call.bounds[i].least - 1), call.bounds[i].most + 1}) {
                    a[i] = v;
                    Refused.due("full: " + text(call, a), FULL, x -> call.form.of(x, a), call.bounds[i].refusal);
                }
            }
        }
        Refused.due("full: a road of a town with itself", FULL, x -> x.road(2, 2, 1), O);
        Refused.due("full: a load of a town to itself", FULL, x -> x.load(0, 1, 2, 2, 0), O);
        Refused.due("full: a leave of one for itself", FULL, x -> x.leave(2, 2, 0, 1, true), O);
    }

    /** The same land at hour 170. */
    private static void busyLater(NineDays x) {
        busy(x);
        x.go(100);
        x.go(40);
    }

    private static void outsideAheadOfNot() {
        int n = NineDays.NOT;
        Refused.due("a stamp that it has", BUSY, x -> x.stamp(5, 3), n);
        Refused.due("a stamp on the way", BUSY, x -> x.stamp(1, 0), n);
        Refused.due("a stamp that it has on the way", BUSY, x -> x.stamp(1, 2), n);
        Refused.due("a stamp when stopped", BUSY, x -> x.stamp(4, 0), n);
        for (int l : new int[] {1, 4, 5}) {
            Refused.due("a stamp that there is not, of " + l, BUSY, x -> x.stamp(l, 4), O);
            Refused.due("a stamp below, of " + l, BUSY, x -> x.stamp(l, -1), O);
        }
        Refused.due("no such load, a stamp that there is not", BUSY, x -> x.stamp(7, 4), U);
        Refused.Setup later = BoundsTest::busyLater;
        Refused.due("a stamp when there", later, x -> x.stamp(1, 0), n);
        Refused.due("NOW would be 241", later, x -> x.go(71), n);
        Refused.due("NOW would be 270", later, x -> x.go(100), n);
        Refused.due("101 hours", later, x -> x.go(101), O);
        Refused.due("hours below 0", later, x -> x.go(-1), O);
        Refused.due("an order an hour ago", later, x -> x.order(0, 0, 0, 169), O);
        Refused.due("a load an hour ago", later, x -> x.load(0, 1, 0, 1, 169), O);
    }
}
