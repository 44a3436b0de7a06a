/** Promises 27 to 34. */
public final class LeavesTest {
    public static void main(String[] args) {
        leaves();
        chains();
        lasting();
        lending();
        games();
        judges();
        beside();
        besideByHand();
        Check.end();
    }

    private static void leaves() {
        NineDays x = new NineDays();
        for (int v = 0; v < 24; v++) Check.due("leave " + v, x.leave(0, 7, 240, 240, false), v);
        Check.due("a twenty-fifth", x.leave(0, 7, 0, 0, false), NineDays.FULL);
        Check.due("OUTSIDE ahead of FULL", x.leave(0, 0, 0, 0, false), NineDays.OUTSIDE);
        Check.due("leaves", x.count(11), 24);
        Check.due("perhaps", x.binds(1, 240, 7), 1);
        Check.due("not in force", x.binds(1, 239, 7), 0);
        Check.due("not the other way", x.binds(128, 240, 0), 0);
    }

    private static void chains() {
        NineDays x = new NineDays();
        for (int a = 7; a > 0; a--) x.leave(a - 1, a, 5, 9, a != 4);
        Check.due("the whole chain, told from its end", x.binds(1, 5, 7), 1);
        Check.due("up to the one that is not sure", x.binds(1, 9, 3), 2);
        Check.due("behind it", x.binds(16, 9, 7), 2);
        Check.due("one of several", x.binds(1 | 16, 9, 7), 2);
        Check.due("before", x.binds(1, 4, 1), 0);
        Check.due("after", x.binds(1, 10, 1), 0);
        Check.due("who signed", x.binds(255, 240, 6), 2);
        Check.due("none signed", x.binds(0, 7, 6), 0);
        x.leave(3, 4, 9, 20, true);
        Check.due("one link in force, one not", x.binds(1, 10, 4), 0);
        Check.due("all in force in hour 9", x.binds(1, 9, 7), 2);
        Check.due("not all sure in hour 8", x.binds(1, 8, 7), 1);
    }

    private static void lasting() {
        NineDays x = new NineDays();
        Check.due("no members", x.last(0), 999);
        Check.enact(x, 0, "pay 1;", 0);
        x.members(5, 7, 1);
        x.fund(5, 3);
        Check.due("one head at one", x.last(5), 3);
        Check.enact(x, 0, "strike 0;", 1);
        x.members(0, 0, 3);
        x.members(0, 7, 4);
        Check.due("no fund", x.last(0), 0);
        x.fund(0, 41);
        Check.due("cut", x.last(0), 2);
        x.fund(0, 42);
        Check.due("all", x.last(0), 3);
        x.fund(0, 99999);
        Check.due("999 at most", x.last(0), 999);
        Check.enact(x, 5, "pay 99;", 2);
        Check.due("not yet", x.last(0), 999);
        x.go(5);
        Check.due("by rules of NOW", x.last(0), 144);
        Check.enact(x, 5, "pay 0;", 3);
        x.fund(0, 0);
        Check.due("pay 0", x.last(0), 999);
    }

    private static void lending() {
        NineDays x = new NineDays();
        for (int u = 0; u < 6; u++) {
            x.members(u, u, 10);
            x.fund(u, 20 * u);
            Check.due("alone " + u, x.last(u), u);
        }
        Check.due("none", x.lending(0), 999);
        Check.due("one", x.lending(32), 5);
        Check.due("two", x.lending(33), 2);
        Check.due("all", x.lending(63), 2);
        Check.due("three", x.lending(56), 4);
        for (int u = 0; u < 6; u++) {
            for (int t = 0; t < 8; t++) x.members(u, t, 999);
            x.fund(u, 99999);
        }
        Check.due("the most", x.lending(63), 6);
        Check.enact(x, 0, "pay 99;", 0);
        Check.due("the dearest", x.lending(63), 0);
    }

    private static void games() {
        NineDays x = new NineDays();
        Check.due("nothing is added", x.game(6, 999, 0), 0);
        Check.due("of like ones the least", x.game(6, 1, 1), 0);
        for (int m = 0; m < 9; m++) Check.due("table", x.table(m / 3, m % 3, 99), 0);
        Check.due("the most", x.game(6, 999, 0), 594);
        Check.due("up to END", x.game(6, 100, 0), 198);
        Check.due("END is enough", x.game(6, 99, 0), 99);
        for (int m = 0; m < 9; m++) Check.due("table", x.table(m / 3, m % 3, -99), 99);
        Check.due("the least", x.game(6, 999, 0), -594);
        Check.due("down to -END", x.game(6, 100, 0), -198);
        Check.due("-END is enough", x.game(6, 99, 0), -99);
        int[] row = {5, -5, -5, 4, -6, 7, -5, 3, 0};
        for (int m = 0; m < 9; m++) x.table(m / 3, m % 3, row[m]);
        Check.due("the other one answers", x.game(1, 9, 0), -5);
        Check.due("the first of 0 and 2", x.game(1, 9, 1), 0);
        Check.due("two days", x.game(2, 5, 0), -5);
    }

    private static void judges() {
        NineDays x = new NineDays();
        for (int m = 0; m < 9; m++) x.table(m / 3, m % 3, m + 1);
        Check.due("first moves lowest", x.judge(1, 999, 1), 4);
        Check.due("then the other's", x.judge(1, 999, 3), 2);
        Check.due("the second day", x.judge(2, 999, 9), 5);
        Check.due("moves 2 1 0 2", x.judge(2, 999, 2 + 3 + 54), 11);
        Check.due("ended", x.judge(2, 8, 2 + 3 + 54), 8);
        Check.due("not ended", x.judge(2, 9, 2 + 3 + 54), 11);
        Check.due("the last row", x.judge(6, 999, 531440), 54);
        Check.due("too many moves", x.judge(6, 999, 531441), NineDays.OUTSIDE);
        Check.due("too many moves", x.judge(5, 999, 59049), NineDays.OUTSIDE);
        Check.due("below 0", x.judge(6, 999, -1), NineDays.OUTSIDE);
        x.table(0, 0, -3);
        Check.due("-END", x.judge(3, 6, 0), -6);
        Check.due("END 1", x.judge(3, 1, 0), -3);
    }

    private static NineDays calls() {
        NineDays x = new NineDays();
        x.road(0, 1, 2);
        x.members(0, 0, 4);
        x.members(3, 0, 4);
        x.store(0, 0, 8);
        x.need(1, 0, 1);
        x.load(0, 8, 0, 1, 5);
        x.stamp(0, 2);
        x.order(0, 0, 0, 6);
        x.order(0, 3, 0, 3);
        return x;
    }

    private static void beside() {
        NineDays x = calls();
        Check.due("no hours yet", x.beside(true), 0);
        Check.due("the load comes in hour 7", x.go(10), 7);
        Check.due("as they are", x.beside(false), 7);
        Check.due("all in hour 3: it comes in hour 9", x.beside(true), 9);
        Check.due("the days themselves are as they were", x.told(0, 8), 7);
        Check.due("and their hunger", x.count(10), 7);
        x.order(2, 0, 0, 10);
        Check.due("a ban after them", x.beside(true), 9);
        x.go(1);
        Check.due("one hour more, fed", x.beside(true), 9);
        NineDays y = new NineDays();
        y.road(0, 1, 2);
        y.members(0, 0, 4);
        y.store(0, 0, 8);
        y.need(1, 0, 1);
        y.load(0, 8, 0, 1, 5);
        y.stamp(0, 2);
        y.order(0, 3, 0, 3);
        y.order(0, 0, 0, 6);
        y.go(10);
        Check.due("the first one has number 0", y.beside(true), 9);
        y.order(1, 0, 0, 10);
        Check.due("recalls stay in their hours", y.beside(true), 9);
    }

    private static void besideByHand() {
        NineDays x = new NineDays();
        x.road(0, 1, 1);
        x.need(0, 0, 5);
        Check.due("hungry", x.go(10), 50);
        Check.due("as it was", x.beside(false), 50);
        x.store(0, 0, 45);
        Check.due("from the store that was set", x.beside(false), 5);
        x.go(2);
        Check.due("not from what hours left", x.beside(false), 15);
        x.need(0, 0, 4);
        Check.due("by needs as they are", x.beside(false), 3);
        x.load(0, 9, 0, 1, 12);
        x.stamp(0, 2);
        Check.due("a load from its own hour on", x.beside(false), 3);
        NineDays y = new NineDays();
        y.road(0, 1, 1);
        y.store(0, 0, 10);
        y.need(1, 0, 1);
        y.load(0, 10, 0, 1, 0);
        Check.due("unstamped", y.go(5), 5);
        y.stamp(0, 2);
        Check.due("with stamps as they are now", y.beside(false), 1);
        Check.enact(y, 0, "need bread state;", 0);
        Check.due("by rules as they are now", y.beside(false), 5);
    }
}
