/** Promises 1 to 11: the edges that their sentences name, each with a test of its own. */
public final class TownsEdgesTest {
    public static void main(String[] args) {
        objectsApart();
        roadOfEveryPair();
        roadsAreCounted();
        fewestHours();
        noWay();
        everyShelf();
        whatItWas();
        firstHourOfLack();
        everyPlace();
        thoseOutAtMost();
        membersWhoAreNotOut();
        purseInAllTowns();
        fundWhatItWas();
        wentBackInAll();
        numbersAsTheyCome();
        Check.end();
    }

    /** "A new object: no ROADS, no ORDERS; hour 0", whatever was done to another one. */
    private static void objectsApart() {
        NineDays x = new NineDays();
        BoundsTest.busy(x);
        NineDays y = new NineDays();
        for (int w = 0; w < 14; w++) Check.due("another object: count " + w, y.count(w), 0);
        Check.due("another object: away", y.away(0, 1), NineDays.NONE);
        Check.due("another object: store", y.town(0, 0), 0);
        Check.due("another object: need", y.need(0, 0, 0), 0);
        Check.due("another object: purse", y.out(1, 1, 2), 20);
        Check.due("another object: fund", y.fund(5, 0), 0);
        Check.due("another object: pay", y.force(3, 240), 2);
        Check.due("another object: table", y.table(0, 0, 0), 0);
        Check.due("another object: fault", y.fault(), NineDays.NONE);
        y.go(7);
        Check.due("the first one stays in its hour", x.count(0), 30);
    }

    /** "ROADS join two unlike TOWNS by 1 to 30 hours", one way and the other; a TOWN is 0 away from itself. */
    private static void roadOfEveryPair() {
        for (int a = 0; a < 8; a++) {
            for (int b = 0; b < 8; b++) {
                if (a == b) continue;
                int hours = a < b ? 1 : 30;
                NineDays x = new NineDays();
                Check.due("road " + a + " " + b, x.road(a, b, hours), 1);
                for (int k = 0; k < 64; k++) {
                    int from = k / 8;
                    int to = k % 8;
                    boolean joined = from == a && to == b || from == b && to == a;
                    int want = from == to ? 0 : joined ? hours : NineDays.NONE;
                    Check.due("road " + a + " " + b + ": away " + from + " " + to, x.away(from, to), want);
                }
            }
        }
    }

    /** "ROADS (14 at most)": "how many there are", two between the same TOWNS too. */
    private static void roadsAreCounted() {
        NineDays x = new NineDays();
        for (int r = 1; r <= 14; r++) {
            Check.due("roads before", x.count(1), r - 1);
            Check.due("road " + r, x.road(2, 3, 31 - 2 * r), r);
            Check.due("the shortest of " + r, x.away(3, 2), 31 - 2 * r);
        }
        Check.due("a fifteenth", x.road(2, 3, 1), NineDays.FULL);
        Check.due("roads", x.count(1), 14);
        Check.due("the shortest of 14", x.away(2, 3), 3);
    }

    /** "AWAY is the fewest hours from TOWN to TOWN". */
    private static void fewestHours() {
        NineDays x = new NineDays();
        x.road(0, 1, 15);
        x.road(1, 2, 15);
        Check.due("by two roads", x.away(0, 2), 30);
        x.road(2, 0, 30);
        Check.due("one road as long", x.away(0, 2), 30);
        x.road(0, 2, 29);
        Check.due("one road that is an hour shorter", x.away(2, 0), 29);
        x.road(1, 2, 13);
        Check.due("two roads that are an hour shorter again", x.away(2, 0), 28);
        x.road(5, 6, 1);
        x.road(6, 7, 1);
        x.road(7, 4, 1);
        x.road(5, 4, 4);
        Check.due("three roads are shorter than one", x.away(4, 5), 3);
        x.road(4, 0, 30);
        Check.due("two lands are joined", x.away(5, 2), 61);
        NineDays y = new NineDays();
        for (int t = 7; t > 0; t--) y.road(t, t - 1, 30);
        for (int k = 0; k < 64; k++) {
            Check.due("a row of all towns " + k, y.away(k / 8, k % 8), 30 * Math.abs(k / 8 - k % 8));
        }
        y.road(7, 0, 30);
        for (int k = 0; k < 64; k++) {
            int apart = Math.abs(k / 8 - k % 8);
            Check.due("a ring of all towns " + k, y.away(k / 8, k % 8), 30 * Math.min(apart, 8 - apart));
        }
    }

    /** "NONE: no way". */
    private static void noWay() {
        NineDays x = new NineDays();
        for (int t = 0; t < 6; t++) x.road(t, t + 1, 1);
        for (int t = 0; t < 7; t++) {
            Check.due("no way to the last town", x.away(t, 7), NineDays.NONE);
            Check.due("nor from it", x.away(7, t), NineDays.NONE);
        }
        Check.due("but to itself", x.away(7, 7), 0);
    }

    /** "STORES (0 .. 9999; 0 at first) and NEED of each in an hour (0 .. 99; 0 at first)": each of 24 on its own. */
    private static void everyShelf() {
        NineDays x = new NineDays();
        for (int k = 0; k < 24; k++) {
            Check.due("store at first " + k, x.store(k / 3, k % 3, 9999 - k), 0);
            Check.due("need at first " + k, x.need(k / 3, k % 3, 99 - k), 0);
        }
        for (int k = 0; k < 24; k++) Check.due("store " + k, x.town(k / 3, k % 3), 9999 - k);
        Check.due("all have enough", x.go(1), 0);
        for (int k = 0; k < 24; k++) {
            Check.due("store after an hour " + k, x.town(k / 3, k % 3), 9900);
            Check.due("no hunger " + k, x.town(k / 3, 3 + k % 3), 0);
            Check.due("no first hour " + k, x.town(k / 3, 6 + k % 3), NineDays.NONE);
            Check.due("what the store was " + k, x.store(k / 3, k % 3, k), 9900);
            Check.due("what the need was " + k, x.need(k / 3, k % 3, 99), 99 - k);
        }
        x.go(1);
        for (int k = 0; k < 24; k++) {
            Check.due("hunger " + k, x.town(k / 3, 3 + k % 3), 99 - k);
            Check.due("an empty store " + k, x.town(k / 3, k % 3), 0);
            Check.due("the first hour " + k, x.town(k / 3, 6 + k % 3), 1);
        }
    }

    /** "STORE becomes v: what it was", "NEED likewise": the bounds themselves too. */
    private static void whatItWas() {
        NineDays x = new NineDays();
        Check.due("store 9999", x.store(0, 0, 9999), 0);
        Check.due("store 0", x.store(0, 0, 0), 9999);
        Check.due("store 0 again", x.store(0, 0, 0), 0);
        Check.due("need 99", x.need(0, 0, 99), 0);
        Check.due("need 0", x.need(0, 0, 0), 99);
        Check.due("need 0 again", x.need(0, 0, 1), 0);
        Check.due("members 999", x.members(0, 0, 999), 0);
        Check.due("members 0", x.members(0, 0, 0), 999);
        Check.due("members 0 again", x.members(0, 0, 1), 0);
        Check.due("fund 99999", x.fund(0, 99999), 0);
        Check.due("fund 0", x.fund(0, 0), 99999);
        Check.due("fund 0 again", x.fund(0, 1), 0);
        Check.due("purse 999", x.purse(0, 999), 1);
        Check.due("it is 999", x.out(0, 0, 2), 999);
        Check.due("purse 0", x.purse(0, 0), 1);
        Check.due("it is 0", x.out(0, 0, 2), 0);
    }

    /** "each TOWN uses NEED of each GOOD, as far as there is; what it lacks is HUNGER"; "the first hour in which it lacked one (NONE)". */
    private static void firstHourOfLack() {
        NineDays x = new NineDays();
        x.need(3, 0, 10);
        x.need(3, 1, 10);
        x.need(3, 2, 10);
        x.store(3, 0, 10);
        x.store(3, 1, 9);
        x.store(3, 2, 11);
        Check.due("one is lacking", x.go(1), 1);
        Check.due("just enough: no hunger", x.town(3, 3), 0);
        Check.due("just enough: no first hour", x.town(3, 6), NineDays.NONE);
        Check.due("just enough: an empty store", x.town(3, 0), 0);
        Check.due("one too few: hunger", x.town(3, 4), 1);
        Check.due("one too few: hour 0", x.town(3, 7), 0);
        Check.due("one too few: an empty store", x.town(3, 1), 0);
        Check.due("one too many stays", x.town(3, 2), 1);
        Check.due("then all lack", x.go(1), 10 + 10 + 9);
        Check.due("hour 1", x.town(3, 6), 1);
        Check.due("hour 0 stays", x.town(3, 7), 0);
        Check.due("hour 1 of the third", x.town(3, 8), 1);
        x.store(3, 1, 100);
        x.go(1);
        x.store(3, 1, 0);
        x.go(1);
        Check.due("the first hour stays, when it lacks again", x.town(3, 7), 0);
        Check.due("hunger stays and grows", x.town(3, 4), 21);
        Check.due("no need, no hunger", x.town(4, 3), 0);
    }

    /** "UNIONS 0 to 5 have MEMBERS in TOWNS (0 .. 999 each; 0 at first)": each of 48 on its own. */
    private static void everyPlace() {
        NineDays x = new NineDays();
        int all = 0;
        for (int k = 0; k < 48; k++) {
            Check.due("members at first " + k, x.members(k / 8, k % 8, 999 - k), 0);
            all += 999 - k;
        }
        for (int k = 0; k < 40; k++) x.order(0, k / 8, k % 8, 0);
        x.go(1);
        for (int k = 0; k < 48; k++) {
            Check.due("members " + k, x.out(k / 8, k % 8, 0), 999 - k);
            Check.due("out " + k, x.out(k / 8, k % 8, 1), k < 40 ? 999 - k : 0);
            Check.due("went back " + k, x.out(k / 8, k % 8, 3), 0);
            if (k >= 40) all -= 999 - k;
        }
        Check.due("out in all", x.count(9), all);
    }

    /** "(Those OUT are as they are, n at most.)" */
    private static void thoseOutAtMost() {
        NineDays x = new NineDays();
        x.members(2, 3, 10);
        x.order(0, 2, 3, 0);
        x.go(1);
        int[] becomes = {10, 11, 10, 9, 10, 999, 1, 0, 999};
        int[] out = {10, 10, 10, 9, 9, 9, 1, 0, 0};
        int was = 10;
        for (int i = 0; i < becomes.length; i++) {
            Check.due("members become " + becomes[i], x.members(2, 3, becomes[i]), was);
            Check.due("out of " + becomes[i], x.out(2, 3, 1), out[i]);
            was = becomes[i];
        }
        x.go(1);
        Check.due("as many as were, none", x.out(2, 3, 1), 0);
        Check.due("none went back", x.out(2, 3, 3), 0);
    }

    private static void membersWhoAreNotOut() {
        NineDays x = new NineDays();
        x.members(2, 3, 10);
        x.members(2, 4, 10);
        x.order(0, 2, 3, 0);
        x.go(1);
        x.members(2, 4, 5);
        Check.due("those of another town are as they are", x.out(2, 3, 1), 10);
        Check.due("none is out there", x.out(2, 4, 1), 0);
        x.members(1, 3, 3);
        Check.due("of another union too", x.out(2, 3, 1), 10);
    }

    /** "PURSE of each head of a UNION (in all TOWNS) becomes v: 1", "20 at first". */
    private static void purseInAllTowns() {
        NineDays x = new NineDays();
        for (int t = 0; t < 8; t++) x.members(4, t, 1);
        x.order(0, 4, 2, 0);
        x.order(0, 4, 7, 0);
        x.go(25);
        for (int t = 0; t < 8; t++) Check.due("purse after a day in " + t, x.out(4, t, 2), t == 2 || t == 7 ? 15 : 20);
        Check.due("purse", x.purse(4, 33), 1);
        for (int k = 0; k < 48; k++) Check.due("purse of " + k, x.out(k / 8, k % 8, 2), k / 8 == 4 ? 33 : 20);
        for (int u = 0; u < 6; u++) x.purse(u, 100 + u);
        for (int k = 0; k < 48; k++) Check.due("purse by unions " + k, x.out(k / 8, k % 8, 2), 100 + k / 8);
    }

    /** "FUND of a UNION becomes v: what it was": what hours have left of it. */
    private static void fundWhatItWas() {
        NineDays x = new NineDays();
        for (int u = 0; u < 6; u++) {
            Check.due("fund at first " + u, x.fund(u, 100 + u), 0);
            x.members(u, u, 1 + u);
            x.order(0, u, u, 0);
        }
        x.go(25);
        for (int u = 0; u < 6; u++) Check.due("fund after a day " + u, x.fund(u, 7), 100 + u - 2 * (1 + u));
        for (int u = 0; u < 6; u++) Check.due("fund by hand " + u, x.fund(u, 0), 7);
    }

    /** "how many went back in all": through recalls, and by places. */
    private static void wentBackInAll() {
        NineDays x = new NineDays();
        x.purse(3, 0);
        x.members(3, 1, 10);
        x.members(3, 2, 20);
        x.order(0, 3, 1, 0);
        x.order(0, 3, 2, 0);
        x.order(1, 3, 1, 30);
        x.order(0, 3, 1, 40);
        x.go(25);
        Check.due("of ten", x.out(3, 1, 3), 3);
        Check.due("of twenty", x.out(3, 2, 3), 6);
        x.go(15);
        Check.due("recalled", x.out(3, 1, 1), 0);
        Check.due("who went back is told still", x.out(3, 1, 3), 3);
        x.go(1);
        Check.due("all are out again", x.out(3, 1, 1), 10);
        x.go(8);
        Check.due("three more", x.out(3, 1, 3), 6);
        Check.due("of fourteen", x.out(3, 2, 3), 10);
        Check.due("in all", x.count(13), 16);
        Check.due("out in all", x.count(9), 17);
    }

    /** "What has a number has it from 0 on, as it comes": what was refused has none. */
    private static void numbersAsTheyCome() {
        NineDays x = new NineDays();
        x.order(4, 0, 0, 0);
        x.load(0, 0, 0, 1, 0);
        x.leave(0, 0, 0, 0, true);
        x.rule(-1);
        Check.due("order", x.order(0, 0, 0, 0), 0);
        Check.due("load", x.load(0, 1, 0, 1, 0), 0);
        Check.due("leave", x.leave(0, 1, 0, 0, true), 0);
        Check.faulty(x, "pay", 1, 3);
        Check.enact(x, 0, "pay 1;", 0);
        Check.due("order", x.order(0, 6, 0, 0), NineDays.UNKNOWN);
        Check.due("order", x.order(0, 0, 0, 0), 1);
        Check.due("load", x.load(0, 1, 0, 8, 0), NineDays.UNKNOWN);
        Check.due("load", x.load(0, 1, 0, 1, 0), 1);
        Check.due("leave", x.leave(0, 1, 0, 241, true), NineDays.OUTSIDE);
        Check.due("leave", x.leave(0, 1, 0, 0, true), 1);
        Check.faulty(x, "pay", 1, 3);
        Check.enact(x, 0, "pay 1;", 1);
    }
}
