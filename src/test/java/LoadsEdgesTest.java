/** Promises 21 to 26: the edges that their sentences name, each with a test of its own. */
public final class LoadsEdgesTest {
    public static void main(String[] args) {
        fortyLoads();
        hoursFromNow();
        everyStamp();
        stampOfEveryState();
        storeAtMost();
        comesInItsHour();
        allMembersOrAsManyAsWere();
        hourZero();
        everyTwentyFourHours();
        unionByTowns();
        cutToWholeHeads();
        payOfNothing();
        purseBelowZero();
        fearCut();
        noneOut();
        hourOfALoad();
        stampsThenWayThenStore();
        storeOfJustN();
        slowWhereItLeaves();
        slowAfterWhoWentBack();
        loadsByNumbers();
        rulesOfTheHour();
        clashOfSome();
        clashInTheLastHour();
        fewestWords();
        hoursStepped();
        Check.end();
    }

    /** Towns 0 and 1, so many hours apart; bread needs the union's stamp. */
    private static NineDays pair(int hours) {
        NineDays x = new NineDays();
        x.road(0, 1, hours);
        return x;
    }

    private static int stamped(NineDays x, int good, int n, int from, int to, int hour) {
        int l = x.load(good, n, from, to, hour);
        for (int c = 0; c < 4; c++) x.stamp(l, c);
        return l;
    }

    /** "LOADS (40 at most)": "without STAMPS", its number. */
    private static void fortyLoads() {
        NineDays x = new NineDays();
        for (int l = 0; l < 40; l++) {
            Check.due("loads before", x.count(3), l);
            Check.due("load " + l, x.load(l % 3, l % 2 == 0 ? 1 : 999, l % 8, (l + 3) % 8, 240 - l), l);
        }
        Check.due("a forty-first", x.load(0, 1, 0, 1, 0), NineDays.FULL);
        for (int l = 0; l < 40; l++) {
            int[] want = {l % 3, l % 2 == 0 ? 1 : 999, l % 8, (l + 3) % 8, 240 - l, 0, 0, -1, -1};
            for (int w = 0; w < 9; w++) Check.due("told " + l + " " + w, x.told(l, w), want[w]);
        }
        Check.due("stamp of the last", x.stamp(39, 3), 8);
        Check.due("none has number 40", x.stamp(40, 3), NineDays.UNKNOWN);
        Check.due("none has number 40", x.told(40, 0), NineDays.UNKNOWN);
        Check.due("waiting", x.count(4), 40);
    }

    /** "from an hour (NOW .. 240) on". */
    private static void hoursFromNow() {
        NineDays x = new NineDays();
        Check.due("hour -1", x.load(0, 1, 0, 1, -1), NineDays.OUTSIDE);
        Check.due("hour 0", x.load(0, 1, 0, 1, 0), 0);
        x.go(100);
        Check.due("hour 99 is over", x.load(0, 1, 0, 1, 99), NineDays.OUTSIDE);
        Check.due("hour 100", x.load(0, 1, 0, 1, 100), 1);
        Check.due("hour 240", x.load(0, 1, 0, 1, 240), 2);
        Check.due("hour 241", x.load(0, 1, 0, 1, 241), NineDays.OUTSIDE);
        x.go(100);
        x.go(40);
        Check.due("hour 239 is over", x.load(0, 1, 0, 1, 239), NineDays.OUTSIDE);
        Check.due("hour 240 still", x.load(0, 1, 0, 1, 240), 3);
        Check.due("loads", x.count(3), 4);
    }

    /** "A LOAD gets a STAMP (0 .. 3): the SET that it has", "NOT: it has it". */
    private static void everyStamp() {
        for (int order = 0; order < 4; order++) {
            NineDays x = new NineDays();
            x.load(0, 1, 0, 1, 0);
            int set = 0;
            for (int i = 0; i < 4; i++) {
                int c = (order + i) % 4;
                set |= 1 << c;
                Check.due("stamp " + c, x.stamp(0, c), set);
                Check.due("stamp " + c + " again", x.stamp(0, c), NineDays.NOT);
                Check.due("the set", x.told(0, 5), set);
            }
            Check.due("stamp 4", x.stamp(0, 4), NineDays.OUTSIDE);
            Check.due("stamp -1", x.stamp(0, -1), NineDays.OUTSIDE);
            Check.due("all", x.told(0, 5), 15);
        }
    }

    /** "NOT: ... or is not WAITING": ON THE WAY, THERE, STOPPED. */
    private static void stampOfEveryState() {
        NineDays x = pair(2);
        x.store(0, 0, 10);
        x.load(0, 10, 0, 1, 0);
        x.load(0, 10, 0, 2, 0);
        x.load(0, 10, 0, 1, 0);
        for (int l = 0; l < 3; l++) x.stamp(l, 2);
        x.go(1);
        int[] states = {1, 3, 0};
        for (int l = 0; l < 3; l++) Check.due("state of " + l, x.told(l, 6), states[l]);
        Check.due("on the way", x.stamp(0, 0), NineDays.NOT);
        Check.due("stopped", x.stamp(1, 0), NineDays.NOT);
        Check.due("waiting for the store", x.stamp(2, 0), 5);
        x.go(2);
        Check.due("there", x.told(0, 6), 2);
        Check.due("there", x.stamp(0, 0), NineDays.NOT);
        Check.due("no stamp came", x.told(0, 5), 4);
        Check.due("no stamp came", x.told(1, 5), 4);
        int[] want = {1, 0, 1, 1};
        for (int s = 0; s < 4; s++) Check.due("count of state " + s, x.count(4 + s), want[s]);
    }

    /** "the STORE has them (9999 at most)". */
    private static void storeAtMost() {
        int[] has = {8999, 9000, 9001, 9999};
        int[] want = {9998, 9999, 9999, 9999};
        for (int i = 0; i < has.length; i++) {
            NineDays x = pair(1);
            x.store(0, 0, 999);
            x.store(1, 0, has[i]);
            stamped(x, 0, 999, 0, 1, 0);
            x.go(2);
            Check.due("999 come to " + has[i], x.town(1, 0), want[i]);
        }
        NineDays y = pair(1);
        y.store(0, 0, 2000);
        y.store(1, 0, 9000);
        y.need(1, 0, 50);
        stamped(y, 0, 999, 0, 1, 0);
        stamped(y, 0, 999, 0, 1, 0);
        y.go(1);
        Check.due("used in the hour ahead", y.town(1, 0), 8950);
        y.go(1);
        Check.due("two come, then it is used", y.town(1, 0), 9949);
        Check.due("both are there", y.count(6), 2);
    }

    /** "LOADS ON THE WAY that come in it are THERE": in that hour, not in the one ahead; ahead of what the TOWN uses. */
    private static void comesInItsHour() {
        NineDays x = pair(30);
        x.store(0, 0, 7);
        x.need(1, 0, 7);
        stamped(x, 0, 7, 0, 1, 3);
        Check.due("hungry hours", x.go(33), 231);
        Check.due("on the way still", x.told(0, 6), 1);
        Check.due("left", x.told(0, 7), 3);
        Check.due("comes", x.told(0, 8), 33);
        Check.due("fed in its hour", x.go(1), 0);
        Check.due("there", x.told(0, 6), 2);
        Check.due("left, told still", x.told(0, 7), 3);
        Check.due("came", x.told(0, 8), 33);
        Check.due("used at once", x.town(1, 0), 0);
        Check.due("and no more", x.go(1), 7);
    }

    /** "if it is not CALLED, none; if it is, and it was not in the hour ahead: all MEMBERS; else as many as were". */
    private static void allMembersOrAsManyAsWere() {
        NineDays x = new NineDays();
        x.members(1, 5, 10);
        x.order(0, 1, 5, 3);
        x.order(1, 1, 5, 6);
        x.order(0, 1, 5, 7);
        x.order(2, 1, 5, 9);
        x.order(3, 1, 5, 10);
        int[] want = {0, 0, 0, 10, 4, 4, 0, 20, 20, 0, 20, 20};
        for (int h = 0; h < want.length; h++) {
            if (h == 4) x.members(1, 5, 4);
            if (h == 5) x.members(1, 5, 20);
            x.go(1);
            Check.due("out after hour " + h, x.out(1, 5, 1), want[h]);
        }
    }

    /** "(or in hour 0)". */
    private static void hourZero() {
        NineDays x = new NineDays();
        x.members(1, 5, 10);
        x.members(2, 5, 11);
        x.order(0, 1, 5, 0);
        x.order(0, 2, 5, 1);
        Check.due("none before", x.count(9), 0);
        x.go(1);
        Check.due("all in hour 0", x.out(1, 5, 1), 10);
        Check.due("not the others", x.out(2, 5, 1), 0);
        x.go(1);
        Check.due("all in hour 1", x.out(2, 5, 1), 11);
    }

    /** "in hours that 24 divides (not in hour 0)". */
    private static void everyTwentyFourHours() {
        NineDays x = new NineDays();
        x.members(1, 5, 1);
        x.purse(1, 999);
        x.order(0, 1, 5, 0);
        for (int h = 0; h < 240; h++) {
            x.go(1);
            Check.due("purse after hour " + h, x.out(1, 5, 2), 999 - 5 * (h / 24));
        }
        Check.due("hour 240 is not stepped", x.go(1), NineDays.NOT);
        Check.due("nine days", x.out(1, 5, 2), 954);
    }

    /** "for each UNION by TOWNS": its own FUND, the first TOWNS first. */
    private static void unionByTowns() {
        NineDays x = new NineDays();
        for (int k = 0; k < 48; k++) x.members(k / 8, k % 8, 1);
        for (int u = 0; u < 4; u++) {
            x.fund(u, 2 * u + 4);
            for (int t = 0; t < 8; t++) x.order(0, u, t, 0);
        }
        x.go(25);
        for (int k = 0; k < 48; k++) {
            int u = k / 8;
            int want = u > 3 ? 20 : k % 8 < u + 2 ? 17 : 15;
            Check.due("purse of union " + u + " in " + k % 8, x.out(u, k % 8, 2), want);
        }
        for (int u = 0; u < 6; u++) Check.due("fund of " + u, x.fund(u, 0), 0);
    }

    /** "as far as there is (cut to whole heads' pay: FUND / pay heads)", "if all heads got pay, gains pay". */
    private static void cutToWholeHeads() {
        int[] funds = {0, 1, 2, 3, 18, 19, 20, 21, 22};
        int[] left = {0, 1, 0, 1, 0, 1, 0, 1, 2};
        for (int i = 0; i < funds.length; i++) {
            NineDays x = new NineDays();
            x.members(1, 5, 10);
            x.fund(1, funds[i]);
            x.order(0, 1, 5, 0);
            x.go(25);
            Check.due("purse by a fund of " + funds[i], x.out(1, 5, 2), funds[i] >= 20 ? 17 : 15);
            Check.due("what is left of " + funds[i], x.fund(1, 0), left[i]);
        }
        NineDays y = new NineDays();
        Check.enact(y, 0, "pay 3;", 0);
        y.members(1, 0, 2);
        y.members(1, 1, 2);
        y.members(1, 2, 1);
        y.fund(1, 10);
        for (int t = 0; t < 3; t++) y.order(0, 1, t, 0);
        y.go(25);
        int[] want = {18, 15, 15};
        for (int t = 0; t < 3; t++) Check.due("pay of 3 in " + t, y.out(1, t, 2), want[t]);
        Check.due("one head of two had it", y.fund(1, 0), 1);
    }

    /** "pay 0: all have it". */
    private static void payOfNothing() {
        NineDays x = new NineDays();
        Check.enact(x, 0, "pay 0;", 0);
        x.members(1, 5, 10);
        x.fund(1, 7);
        x.order(0, 1, 5, 0);
        x.go(25);
        Check.due("the purse loses cost", x.out(1, 5, 2), 15);
        Check.due("the fund is as it was", x.fund(1, 0), 7);
        Check.due("none went back", x.out(1, 5, 3), 0);
        NineDays y = new NineDays();
        Check.enact(y, 0, "pay 99;cost 0;", 0);
        y.members(1, 5, 999);
        y.fund(1, 99 * 999);
        y.order(0, 1, 5, 0);
        y.go(25);
        Check.due("the most heads, the most pay", y.out(1, 5, 2), 119);
        Check.due("the fund is empty", y.fund(1, 0), 0);
    }

    /** "If that PURSE is below 0: it is 0". */
    private static void purseBelowZero() {
        for (int purse = 3; purse <= 7; purse++) {
            NineDays x = new NineDays();
            x.members(1, 5, 10);
            x.purse(1, purse);
            x.order(0, 1, 5, 0);
            x.go(25);
            boolean below = purse < 5;
            Check.due("purse of " + purse, x.out(1, 5, 2), below ? 0 : purse - 5);
            Check.due("back with " + purse, x.out(1, 5, 3), below ? 3 : 0);
            Check.due("out with " + purse, x.out(1, 5, 1), below ? 7 : 10);
            Check.due("members with " + purse, x.out(1, 5, 0), 10);
        }
        NineDays y = new NineDays();
        y.members(1, 5, 10);
        y.purse(1, 3);
        y.fund(1, 20);
        y.order(0, 1, 5, 0);
        y.go(25);
        Check.due("cost and pay together: 0 is not below 0", y.out(1, 5, 3), 0);
        Check.due("0", y.out(1, 5, 2), 0);
    }

    /** "fear in a hundred of those OUT (cut, 1 at least) GO BACK". */
    private static void fearCut() {
        int[][] rows = {{30, 1, 1}, {30, 3, 1}, {30, 4, 1}, {30, 6, 1}, {30, 7, 2}, {30, 10, 3}, {30, 999, 299},
            {0, 1, 1}, {0, 999, 1}, {1, 100, 1}, {1, 199, 1}, {1, 200, 2}, {99, 1, 1}, {99, 99, 98}, {99, 100, 99},
            {100, 1, 1}, {100, 999, 999}, {50, 2, 1}, {50, 3, 1}, {50, 4, 2}};
        for (int[] row : rows) {
            NineDays x = new NineDays();
            Check.enact(x, 0, "fear " + row[0] + ";", 0);
            x.members(1, 5, row[1]);
            x.purse(1, 0);
            x.order(0, 1, 5, 0);
            x.go(25);
            Check.due("fear " + row[0] + " of " + row[1], x.out(1, 5, 3), row[2]);
            Check.due("out, fear " + row[0] + " of " + row[1], x.out(1, 5, 1), row[1] - row[2]);
        }
    }

    /** "if some are OUT": where none is, nothing is paid, and no PURSE changes. */
    private static void noneOut() {
        NineDays x = new NineDays();
        x.members(1, 5, 10);
        x.fund(1, 50);
        x.order(0, 1, 5, 25);
        x.order(0, 1, 6, 0);
        x.go(25);
        Check.due("not called yet", x.out(1, 5, 2), 20);
        Check.due("called, but without members", x.out(1, 6, 2), 20);
        Check.due("the fund is as it was", x.fund(1, 0), 50);
        NineDays y = new NineDays();
        Check.enact(y, 0, "fear 100;cost 21;", 0);
        y.members(1, 5, 10);
        y.order(0, 1, 5, 0);
        y.go(25);
        Check.due("all went back", y.out(1, 5, 3), 10);
        y.purse(1, 30);
        y.fund(1, 50);
        y.go(24);
        Check.due("called, but none is out", y.out(1, 5, 2), 30);
        Check.due("the fund is as it was", y.fund(1, 0), 50);
    }

    /** "WAITING LOADS, whose hour is not after this one". */
    private static void hourOfALoad() {
        NineDays x = pair(3);
        x.store(0, 0, 10);
        stamped(x, 0, 10, 0, 1, 5);
        x.go(5);
        Check.due("hour 4 is stepped", x.told(0, 6), 0);
        Check.due("it has not left", x.told(0, 7), NineDays.NONE);
        Check.due("nor comes", x.told(0, 8), NineDays.NONE);
        x.go(1);
        Check.due("hour 5 is stepped", x.told(0, 6), 1);
        Check.due("it left", x.told(0, 7), 5);
        Check.due("it comes", x.told(0, 8), 8);
        NineDays y = pair(1);
        y.store(0, 0, 10);
        stamped(y, 0, 10, 0, 1, 0);
        y.go(1);
        Check.due("in hour 0", y.told(0, 7), 0);
        Check.due("an hour later", y.told(0, 8), 1);
    }

    /** "not all STAMPS: waits; if there is no way: STOPPED; if the STORE has less than n: it waits": in this order. */
    private static void stampsThenWayThenStore() {
        for (int k = 0; k < 8; k++) {
            boolean stamps = (k & 1) != 0;
            boolean way = (k & 2) != 0;
            boolean store = (k & 4) != 0;
            NineDays x = new NineDays();
            if (way) x.road(0, 1, 1);
            x.store(0, 2, store ? 5 : 4);
            x.load(2, 5, 0, 1, 0);
            x.stamp(0, 2);
            if (stamps) x.stamp(0, 3);
            x.go(1);
            int want = !stamps ? 0 : !way ? 3 : !store ? 0 : 1;
            Check.due("stamps " + stamps + ", way " + way + ", store " + store, x.told(0, 6), want);
            Check.due("the store", x.town(0, 2), want == 1 ? 0 : store ? 5 : 4);
            Check.due("left", x.told(0, 7), want == 1 ? 0 : -1);
            Check.due("comes", x.told(0, 8), want == 1 ? 1 : -1);
        }
    }

    /** "if the STORE of its TOWN has less than n: it waits; else it leaves (the STORE loses n)". */
    private static void storeOfJustN() {
        for (int n : new int[] {1, 2, 998, 999}) {
            for (int more = -1; more <= 1; more++) {
                NineDays x = pair(1);
                x.store(0, 1, n + more);
                stamped(x, 1, n, 0, 1, 0);
                x.go(1);
                Check.due(n + " of " + (n + more), x.told(0, 6), more < 0 ? 0 : 1);
                Check.due("left of " + (n + more), x.town(0, 1), more < 0 ? n + more : more);
                x.go(1);
                Check.due("come of " + n, x.town(1, 1), more < 0 ? 0 : n);
            }
        }
        NineDays y = pair(1);
        y.store(0, 0, 5);
        y.store(0, 2, 5);
        y.store(1, 1, 5);
        stamped(y, 1, 5, 0, 1, 0);
        y.go(1);
        Check.due("neither of another good nor of another town", y.told(0, 6), 0);
        y.store(0, 1, 5);
        y.go(1);
        Check.due("as soon as there is enough", y.told(0, 7), 1);
    }

    /** "comes AWAY hours later (times slow, if of UNION 0 some are OUT where it leaves)". */
    private static void slowWhereItLeaves() {
        for (int slow = 1; slow <= 9; slow++) {
            NineDays x = pair(30);
            Check.enact(x, 0, "slow " + slow + ";", 0);
            x.members(0, 0, 1);
            x.order(0, 0, 0, 0);
            x.store(0, 0, 1);
            x.store(1, 0, 1);
            stamped(x, 0, 1, 0, 1, 0);
            stamped(x, 0, 1, 1, 0, 0);
            x.go(1);
            Check.due("slow " + slow, x.told(0, 8), 30 * slow);
            Check.due("where none is out", x.told(1, 8), 30);
        }
        for (int u = 1; u < 6; u++) {
            NineDays x = pair(7);
            x.members(u, 0, 999);
            x.order(0, u, 0, 0);
            x.store(0, 0, 1);
            stamped(x, 0, 1, 0, 1, 0);
            x.go(1);
            Check.due("union " + u + " slows nothing", x.told(0, 8), 7);
        }
        for (int t = 0; t < 8; t++) {
            NineDays x = new NineDays();
            int other = (t + 1) % 8;
            x.road(t, other, 5);
            x.members(0, t, 1);
            x.order(0, 0, t, 1);
            x.store(t, 0, 2);
            stamped(x, 0, 1, t, other, 0);
            stamped(x, 0, 1, t, other, 1);
            x.go(2);
            Check.due("before the call in " + t, x.told(0, 8), 5);
            Check.due("in the hour of the call in " + t, x.told(1, 8), 11);
        }
    }

    /** LOADS leave behind who GOES BACK in the same hour. */
    private static void slowAfterWhoWentBack() {
        NineDays x = pair(5);
        x.members(0, 0, 1);
        x.purse(0, 0);
        x.order(0, 0, 0, 0);
        x.store(0, 0, 2);
        stamped(x, 0, 1, 0, 1, 23);
        stamped(x, 0, 1, 0, 1, 24);
        x.go(25);
        Check.due("one is out", x.told(0, 8), 33);
        Check.due("none is out any more", x.told(1, 8), 29);
    }

    /** "Fourth: WAITING LOADS by numbers". */
    private static void loadsByNumbers() {
        NineDays x = pair(1);
        x.store(0, 0, 10);
        stamped(x, 0, 6, 0, 1, 2);
        stamped(x, 0, 6, 0, 1, 0);
        stamped(x, 0, 5, 0, 1, 0);
        stamped(x, 0, 4, 0, 1, 0);
        x.go(1);
        int[] want = {0, 1, 0, 1};
        for (int l = 0; l < 4; l++) Check.due("state of " + l, x.told(l, 6), want[l]);
        x.store(0, 0, 6);
        x.go(2);
        Check.due("the earlier hour went first", x.told(2, 7), 1);
        Check.due("the lesser number waits", x.told(0, 6), 0);
        x.store(0, 0, 10);
        stamped(x, 0, 6, 0, 1, 3);
        x.go(1);
        Check.due("of one hour the lesser number", x.told(0, 7), 3);
        Check.due("the greater one waits", x.told(4, 6), 0);
    }

    /** "AN HOUR is stepped, by RULES of it". */
    private static void rulesOfTheHour() {
        NineDays x = pair(4);
        Check.enact(x, 3, "need bread owners;slow 3;", 0);
        Check.enact(x, 24, "pay 9;cost 4;", 1);
        Check.enact(x, 25, "pay 50;cost 50;need bread state;", 2);
        x.members(0, 0, 1);
        x.fund(0, 100);
        x.order(0, 0, 0, 0);
        x.store(0, 0, 10);
        x.load(0, 1, 0, 1, 0);
        x.stamp(0, 0);
        x.load(0, 1, 0, 1, 2);
        x.stamp(1, 2);
        x.load(0, 1, 0, 1, 3);
        x.stamp(2, 2);
        x.go(3);
        Check.due("it needs the union's until hour 2", x.told(0, 6), 0);
        Check.due("slow 2 in hour 2", x.told(1, 8), 10);
        x.go(22);
        Check.due("the owners' in hour 3", x.told(0, 7), 3);
        Check.due("slow 3 in hour 3", x.told(0, 8), 15);
        Check.due("the union's is not enough", x.told(2, 6), 0);
        Check.due("pay and cost of hour 24", x.out(0, 0, 2), 25);
        Check.due("the fund gave 9", x.fund(0, 91), 91);
    }

    /** "LOADS that are WAITING and have some STAMP that they need, but not all": "The i-th CLASH (by numbers)", "NONE". */
    private static void clashOfSome() {
        for (int set = 0; set < 16; set++) {
            NineDays x = new NineDays();
            Check.enact(x, 0, "need milk owners,council,union;need coal state;", 0);
            for (int g = 0; g < 3; g++) {
                x.load(g, 1, 0, 1, 0);
                for (int c = 0; c < 4; c++) if ((set >> c & 1) != 0) x.stamp(g, c);
            }
            boolean some = (set & 7) != 0 && (set & 7) != 7;
            Check.due("clash with " + set, x.clash(0), some ? 1 : NineDays.NONE);
            Check.due("a second one with " + set, x.clash(1), NineDays.NONE);
            Check.due("before the first", x.clash(-1), NineDays.NONE);
            Check.due("far below", x.clash(Integer.MIN_VALUE), NineDays.NONE);
            Check.due("far above", x.clash(Integer.MAX_VALUE), NineDays.NONE);
        }
        NineDays y = new NineDays();
        for (int l = 0; l < 40; l++) y.load(2, 1, 0, 1, 240);
        for (int l = 0; l < 40; l++) y.stamp(l, 2 + l % 2);
        for (int i = 0; i < 40; i++) Check.due("forty clashes " + i, y.clash(i), i);
        Check.due("no forty-first", y.clash(40), NineDays.NONE);
        y.stamp(0, 3);
        y.stamp(39, 2);
        Check.due("the first is over", y.clash(0), 1);
        Check.due("the last is over", y.clash(37), 38);
        Check.due("no more", y.clash(38), NineDays.NONE);
        NineDays z = pair(1);
        z.store(0, 2, 1);
        for (int l = 0; l < 3; l++) {
            z.load(2, 1, 0, 1 + l % 2, 0);
            z.stamp(l, 2);
            z.stamp(l, 3);
        }
        z.go(1);
        Check.enact(z, 0, "need coal owners,union;", 0);
        int[] states = {1, 3, 0};
        for (int l = 0; l < 3; l++) Check.due("state of " + l, z.told(l, 6), states[l]);
        Check.due("neither on the way nor stopped", z.clash(0), 2);
        Check.due("that one alone", z.clash(1), NineDays.NONE);
        z.store(0, 2, 1);
        z.stamp(2, 0);
        z.go(2);
        Check.due("nor there", z.clash(0), NineDays.NONE);
    }

    /** "needs by RULES of NOW, 240 at most". */
    private static void clashInTheLastHour() {
        NineDays x = new NineDays();
        Check.enact(x, 240, "need milk owners,union;", 0);
        x.load(1, 1, 0, 1, 240);
        x.stamp(0, 2);
        x.go(100);
        x.go(100);
        x.go(39);
        Check.due("NOW 239", x.clash(0), NineDays.NONE);
        Check.due("words in 239", x.words(), 2);
        x.go(1);
        Check.due("NOW 240", x.clash(0), 0);
        Check.due("words in 240", x.words(), 1);
    }

    /** "THE FEWEST committees by which all LOADS that are not THERE or ON THE WAY would have all that they need". */
    private static void fewestWords() {
        NineDays x = new NineDays();
        Check.due("no loads", x.words(), 0);
        Check.enact(x, 0, "need bread owners;need milk council,union;need coal state,owners;", 0);
        x.load(0, 1, 0, 1, 0);
        Check.due("owners", x.words(), 1);
        x.load(1, 1, 0, 1, 0);
        Check.due("and council, union", x.words(), 7);
        x.load(2, 1, 0, 1, 0);
        Check.due("all", x.words(), 15);
        x.stamp(0, 0);
        Check.due("coal needs the owners still", x.words(), 15);
        x.stamp(2, 0);
        Check.due("no load needs them", x.words(), 14);
        x.stamp(2, 3);
        Check.due("the last load lacks nothing", x.words(), 6);
        x.stamp(1, 3);
        Check.due("a stamp that it does not need", x.words(), 6);
        x.stamp(1, 1);
        x.stamp(1, 2);
        Check.due("none", x.words(), 0);
        NineDays y = pair(1);
        y.store(0, 0, 2);
        stamped(y, 0, 1, 0, 1, 0);
        y.load(0, 1, 0, 2, 0);
        y.stamp(1, 2);
        y.load(0, 1, 0, 1, 1);
        y.stamp(2, 2);
        y.go(1);
        Check.enact(y, 0, "need bread owners,council;", 0);
        Check.due("one is on the way", y.told(0, 6), 1);
        Check.due("the stopped and the waiting one", y.words(), 3);
        y.stamp(2, 0);
        y.stamp(2, 1);
        Check.due("the stopped one alone", y.words(), 3);
        NineDays z = pair(1);
        z.store(0, 0, 1);
        z.load(0, 1, 0, 1, 0);
        z.stamp(0, 2);
        z.go(1);
        Check.enact(z, 0, "need bread owners;", 0);
        Check.due("on the way", z.words(), 0);
        z.go(1);
        Check.due("there", z.told(0, 6), 2);
        Check.due("there", z.words(), 0);
    }

    /** "n hours (0 .. 100) are stepped: how much HUNGER came"; "NOT: NOW would be above 240". */
    private static void hoursStepped() {
        NineDays x = new NineDays();
        x.need(7, 2, 99);
        Check.due("no hour", x.go(0), 0);
        Check.due("hour 0 still", x.count(0), 0);
        Check.due("one", x.go(1), 99);
        Check.due("a hundred", x.go(100), 9900);
        Check.due("a hundred again", x.go(100), 9900);
        Check.due("NOW", x.count(0), 201);
        Check.due("40 would be one too many", x.go(40), NineDays.NOT);
        Check.due("NOW is as it was", x.count(0), 201);
        Check.due("38", x.go(38), 38 * 99);
        Check.due("two would be one too many", x.go(2), NineDays.NOT);
        Check.due("one", x.go(1), 99);
        Check.due("NOW is 240", x.count(0), 240);
        Check.due("no hour is fine", x.go(0), 0);
        Check.due("one is not", x.go(1), NineDays.NOT);
        Check.due("nor a hundred", x.go(100), NineDays.NOT);
        Check.due("hunger in all", x.count(10), 240 * 99);
        Check.due("and of its town", x.town(7, 5), 240 * 99);
        NineDays y = new NineDays();
        for (int k = 0; k < 24; k++) y.need(k / 3, k % 3, 99);
        Check.due("the most hunger of a go", y.go(100), 100 * 24 * 99);
    }
}
