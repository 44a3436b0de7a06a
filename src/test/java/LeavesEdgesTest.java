/** Promises 27 to 34: the edges that their sentences name, each with a test of its own. */
public final class LeavesEdgesTest {
    public static void main(String[] args) {
        leavesAtMost();
        everyPairOfLeaves();
        hoursOfALeave();
        whoSigned();
        oneAfterTheOther();
        surelyOrPerhaps();
        ringOfLeaves();
        allInForce();
        lastDays();
        lastByRulesOfNow();
        lendingOfSets();
        everyCellOfTheTable();
        bestOfThree();
        theOtherKnows();
        worthAtTheEnd();
        rowsOfMoves();
        judgedToTheEnd();
        besideOfNoHours();
        besideHunger();
        besideStores();
        besideMembers();
        besidePursesAndFunds();
        besideCalls();
        besideLoads();
        besideChangesNothing();
        Check.end();
    }

    /** "LEAVES (24 at most)". */
    private static void leavesAtMost() {
        NineDays x = new NineDays();
        for (int v = 0; v < 24; v++) {
            Check.due("leaves before", x.count(11), v);
            Check.due("leave " + v, x.leave(0, 1, v, v, true), v);
        }
        Check.due("a twenty-fifth", x.leave(2, 3, 0, 240, true), NineDays.FULL);
        Check.due("leaves", x.count(11), 24);
        for (int v = 0; v < 25; v++) Check.due("in hour " + v, x.binds(1, v, 1), v < 24 ? 2 : 0);
        Check.due("it did not come", x.binds(4, 0, 3), 0);
    }

    /** "committee a (0 .. 7) speaks for b": of all pairs, and not the other way. */
    private static void everyPairOfLeaves() {
        for (int a = 0; a < 8; a++) {
            for (int b = 0; b < 8; b++) {
                NineDays x = new NineDays();
                Check.due("leave " + a + " " + b, x.leave(a, b, 0, 240, true), a == b ? NineDays.OUTSIDE : 0);
                for (int k = 0; k < 64; k++) {
                    int signed = k / 8;
                    int bound = k % 8;
                    boolean binds = signed == bound || signed == a && bound == b;
                    Check.due("leave " + a + " " + b + ": " + signed + " binds " + bound,
                        x.binds(1 << signed, 240, bound), binds ? 2 : 0);
                }
            }
        }
    }

    /** "from an hour to another one": "hours 0 .. 240, the latter not below", both in force. */
    private static void hoursOfALeave() {
        int[][] hours = {{0, 0}, {0, 240}, {240, 240}, {7, 7}, {7, 8}, {100, 200}};
        for (int[] pair : hours) {
            NineDays x = new NineDays();
            Check.due("leave", x.leave(3, 4, pair[0], pair[1], false), 0);
            for (int h = 0; h <= 240; h++) {
                Check.due("in hour " + h, x.binds(8, h, 4), pair[0] <= h && h <= pair[1] ? 1 : 0);
            }
        }
    }

    /** "if one signed ...; who signed itself, too": the empty SET and the full one. */
    private static void whoSigned() {
        NineDays x = new NineDays();
        for (int b = 0; b < 8; b++) {
            Check.due("none signed", x.binds(0, 0, b), 0);
            Check.due("all signed", x.binds(255, 240, b), 2);
            Check.due("all but this one", x.binds(255 - (1 << b), 0, b), 0);
            Check.due("this one alone", x.binds(1 << b, 0, b), 2);
        }
        x.leave(5, 6, 0, 240, false);
        Check.due("one of two is led to it", x.binds(1 << 5 | 1, 0, 6), 1);
        Check.due("signed itself, though perhaps led to it", x.binds(1 << 5 | 1 << 6, 0, 6), 2);
        x.leave(0, 6, 0, 240, true);
        Check.due("the better one of two", x.binds(1 << 5 | 1, 0, 6), 2);
        Check.due("the lesser one alone", x.binds(1 << 5, 0, 6), 1);
    }

    /** "one after the other": up to seven, in whatever order they were given. */
    private static void oneAfterTheOther() {
        for (int way = 0; way < 2; way++) {
            for (int open = -1; open < 7; open++) {
                NineDays x = new NineDays();
                for (int i = 0; i < 7; i++) {
                    int a = way == 0 ? i : 6 - i;
                    x.leave(a, a + 1, 0, 240, a != open);
                }
                for (int k = 0; k < 64; k++) {
                    int from = k / 8;
                    int to = k % 8;
                    int want = to < from ? 0 : from <= open && open < to ? 1 : 2;
                    Check.due("row, not sure " + open + ": " + from + " binds " + to, x.binds(1 << from, 9, to), want);
                }
            }
        }
    }

    /** "surely, if SURE LEAVES lead to b; perhaps, if LEAVES lead, SURE or not; else not". */
    private static void surelyOrPerhaps() {
        for (int k = 0; k < 8; k++) {
            NineDays x = new NineDays();
            x.leave(0, 1, 0, 240, (k & 1) != 0);
            x.leave(1, 2, 0, 240, (k & 2) != 0);
            x.leave(0, 2, 0, 240, (k & 4) != 0);
            boolean surely = (k & 4) != 0 || (k & 3) == 3;
            Check.due("two ways " + k, x.binds(1, 0, 2), surely ? 2 : 1);
            Check.due("the first link " + k, x.binds(1, 0, 1), (k & 1) != 0 ? 2 : 1);
            Check.due("no way " + k, x.binds(1, 0, 3), 0);
            Check.due("no way back " + k, x.binds(4, 0, 0), 0);
        }
    }

    private static void ringOfLeaves() {
        NineDays x = new NineDays();
        for (int a = 0; a < 8; a++) x.leave(a, (a + 1) % 8, 0, 240, true);
        for (int k = 0; k < 64; k++) Check.due("ring " + k, x.binds(1 << k / 8, 0, k % 8), 2);
        Check.due("none signed", x.binds(0, 0, 0), 0);
    }

    /** "all in force in that hour". */
    private static void allInForce() {
        NineDays x = new NineDays();
        x.leave(0, 1, 0, 10, true);
        x.leave(1, 2, 10, 20, true);
        x.leave(2, 3, 5, 10, false);
        int[] two = {0, 2, 0};
        int[] three = {0, 1, 0};
        for (int h = 9; h <= 11; h++) {
            Check.due("two links in " + h, x.binds(1, h, 2), two[h - 9]);
            Check.due("three links in " + h, x.binds(1, h, 3), three[h - 9]);
        }
    }

    /** "the greatest number of days (0 .. 999) for which a UNION's FUND pays pay to all its MEMBERS; 999 at most". */
    private static void lastDays() {
        NineDays x = new NineDays();
        Check.enact(x, 0, "pay 1;", 0);
        x.members(5, 7, 1);
        int[] funds = {0, 1, 2, 998, 999, 1000, 99999};
        int[] want = {0, 1, 2, 998, 999, 999, 999};
        for (int i = 0; i < funds.length; i++) {
            x.fund(5, funds[i]);
            Check.due("one head, fund " + funds[i], x.last(5), want[i]);
        }
        NineDays y = new NineDays();
        for (int t = 0; t < 8; t++) y.members(0, t, 999);
        int day = 2 * 8 * 999;
        int[] most = {day - 1, day, 2 * day - 1, 2 * day, 6 * day, 99999};
        int[] days = {0, 1, 1, 2, 6, 6};
        for (int i = 0; i < most.length; i++) {
            y.fund(0, most[i]);
            Check.due("all heads, fund " + most[i], y.last(0), days[i]);
        }
        Check.due("no members, no fund", y.last(1), 999);
        y.fund(1, 5);
        Check.due("no members", y.last(1), 999);
        NineDays z = new NineDays();
        z.members(2, 0, 10);
        z.fund(2, 40);
        z.order(0, 2, 0, 0);
        z.go(25);
        Check.due("what hours have left of the fund", z.last(2), 1);
        z.members(2, 0, 0);
        Check.due("none are members now", z.last(2), 999);
    }

    /** "pay (RULES of NOW)". */
    private static void lastByRulesOfNow() {
        NineDays x = new NineDays();
        Check.enact(x, 240, "pay 0;", 0);
        Check.enact(x, 5, "pay 10;", 1);
        x.members(3, 3, 1);
        x.fund(3, 100);
        x.go(4);
        Check.due("NOW 4", x.last(3), 50);
        Check.due("NOW 4", x.lending(8), 50);
        x.go(1);
        Check.due("NOW 5", x.last(3), 10);
        Check.due("NOW 5", x.lending(8), 10);
        x.go(100);
        x.go(100);
        x.go(34);
        Check.due("NOW 239", x.last(3), 10);
        x.go(1);
        Check.due("NOW 240", x.last(3), 999);
        x.fund(3, 0);
        Check.due("pay 0 without a fund", x.last(3), 999);
        Check.due("pay 0 without a fund", x.lending(8), 999);
    }

    /** "UNIONS of a SET put FUNDS together: likewise for all of them": every SET; "UNKNOWN (bits)". */
    private static void lendingOfSets() {
        NineDays x = new NineDays();
        int[] heads = {1, 2, 4, 8, 16, 32};
        int[] funds = {700, 10, 900, 40, 33, 1000};
        for (int u = 0; u < 6; u++) {
            x.members(u, u, heads[u] / 2);
            x.members(u, 7 - u, heads[u] - heads[u] / 2);
            x.fund(u, funds[u]);
        }
        for (int set = 0; set < 64; set++) {
            int all = 0;
            int fund = 0;
            for (int u = 0; u < 6; u++) {
                if ((set >> u & 1) == 0) continue;
                all += heads[u];
                fund += funds[u];
            }
            Check.due("lending " + set, x.lending(set), all == 0 ? 999 : Math.min(999, fund / (2 * all)));
        }
        for (int bit = 6; bit < 32; bit++) Check.due("bit " + bit, x.lending(1 << bit | 1), NineDays.UNKNOWN);
        Check.due("64", x.lending(64), NineDays.UNKNOWN);
        Check.due("-1", x.lending(-1), NineDays.UNKNOWN);
    }

    /** "TABLE of moves a, b (0 .. 2) becomes v: what it was" (-99 .. 99; 0 at first). */
    private static void everyCellOfTheTable() {
        NineDays x = new NineDays();
        for (int m = 0; m < 9; m++) Check.due("at first", x.table(m / 3, m % 3, 99 - m), 0);
        for (int m = 0; m < 9; m++) Check.due("then", x.table(m / 3, m % 3, m - 99), 99 - m);
        for (int m = 0; m < 9; m++) {
            Check.due("judged", x.judge(1, 999, m / 3 + 3 * (m % 3)), m - 99);
            Check.due("again", x.table(m / 3, m % 3, 0), m - 99);
        }
        Check.due("100", x.table(0, 0, 100), NineDays.OUTSIDE);
        Check.due("-100", x.table(0, 0, -100), NineDays.OUTSIDE);
        Check.due("as it was", x.table(0, 0, 0), 0);
    }

    private static NineDays tabled(int... values) {
        NineDays x = new NineDays();
        for (int m = 0; m < 9; m++) x.table(m / 3, m % 3, values[m]);
        return x;
    }

    /** "BEST: the first side's first move (of like ones the least)". */
    private static void bestOfThree() {
        int[][] lowest = {{5, 3, 4}, {3, 5, 4}, {3, 4, 5}, {5, 5, 4}, {4, 5, 5}, {5, 4, 5}, {5, 5, 5}, {-1, 0, -2}, {-3, -2, -1}};
        int[] best = {0, 1, 2, 0, 1, 0, 0, 1, 2};
        for (int i = 0; i < best.length; i++) {
            for (int at = 0; at < 3; at++) {
                // The least value of each row stands in another column each time.
                int[] all = new int[9];
                for (int m = 0; m < 9; m++) all[m] = lowest[i][m / 3] + ((m % 3 + at) % 3 == 0 ? 0 : 20);
                NineDays x = tabled(all);
                int worth = Math.max(lowest[i][0], Math.max(lowest[i][1], lowest[i][2]));
                for (int n = 1; n <= 6; n++) {
                    Check.due("best " + i + " of " + n + " days", x.game(n, 999, 1), best[i]);
                    Check.due("worth " + i + " of " + n + " days", x.game(n, 999, 0), n * worth);
                }
            }
        }
    }

    /** "each day the first side moves, then the other one, who knows it". */
    private static void theOtherKnows() {
        NineDays x = tabled(9, -9, 0, -9, 9, 0, 1, 1, 2);
        Check.due("worth", x.game(1, 999, 0), 1);
        Check.due("best", x.game(1, 999, 1), 2);
        NineDays y = tabled(-1, 99, 99, 99, -1, 99, 99, 99, -1);
        Check.due("each move has its answer", y.game(6, 999, 0), -6);
        Check.due("the least of like ones", y.game(6, 999, 1), 0);
    }

    /** "once THE SCORE is END (1 .. 999) or more, or -END or less, nothing more is added". */
    private static void worthAtTheEnd() {
        int[] ends = {1, 2, 3, 4, 5, 6, 7, 999};
        int[] want = {2, 2, 4, 4, 6, 6, 8, 12};
        NineDays x = tabled(2, 2, 2, 2, 2, 2, 2, 2, 2);
        NineDays y = tabled(-2, -2, -2, -2, -2, -2, -2, -2, -2);
        for (int i = 0; i < ends.length; i++) {
            Check.due("END " + ends[i], x.game(6, ends[i], 0), want[i]);
            Check.due("-END " + ends[i], y.game(6, ends[i], 0), -want[i]);
            Check.due("judged, END " + ends[i], x.judge(6, ends[i], 0), want[i]);
            Check.due("judged, -END " + ends[i], y.judge(6, ends[i], 0), -want[i]);
        }
        // Move 0 takes 3 now; move 1 takes 2 now and may take 3 later, if the game goes on.
        NineDays z = tabled(3, 3, 3, 2, 2, 2, 0, 0, 0);
        Check.due("to END by a step more", z.game(2, 3, 0), 5);
        Check.due("by the lesser move first", z.game(2, 3, 1), 1);
        Check.due("without END the greater ones", z.game(2, 999, 0), 6);
        Check.due("the least of like ones", z.game(2, 999, 1), 0);
        Check.due("one day", z.game(1, 3, 0), 3);
        NineDays most = tabled(99, 99, 99, 99, 99, 99, 99, 99, 99);
        int[] days = {99, 198, 297, 396, 495, 594};
        for (int n = 1; n <= 6; n++) Check.due("the most of " + n, most.game(n, 999, 0), days[n - 1]);
        Check.due("END 594", most.game(6, 594, 0), 594);
        Check.due("END 595", most.game(6, 595, 0), 594);
        Check.due("END 495", most.game(6, 495, 0), 495);
        Check.due("END 496", most.game(6, 496, 0), 594);
        NineDays both = tabled(99, -99, 0, 99, 99, -99, -99, 0, 99);
        for (int n = 1; n <= 6; n++) {
            for (int end : new int[] {1, 98, 99, 100, 198, 199, 594, 999}) {
                int worth = both.game(n, end, 0);
                Check.due("down to -END " + end + " in " + n, worth, -99 * Math.min(n, (end + 98) / 99));
            }
        }
    }

    /** "a ROW of moves (both sides' by turns, in base 3, the first move lowest, n pairs)": "OUTSIDE (a ROW of more moves, below 0)". */
    private static void rowsOfMoves() {
        NineDays x = tabled(1, 2, 3, 4, 5, 6, 7, 8, 9);
        int rows = 1;
        for (int n = 1; n <= 6; n++) {
            rows *= 9;
            Check.due("all the first moves of " + n, x.judge(n, 999, 0), n);
            Check.due("all the last moves of " + n, x.judge(n, 999, rows - 1), 9 * n);
            Check.due("one row too many of " + n, x.judge(n, 999, rows), NineDays.OUTSIDE);
            Check.due("below 0 of " + n, x.judge(n, 999, -1), NineDays.OUTSIDE);
            Check.due("the last pair of " + n + " alone", x.judge(n, 999, rows / 9 * 5), n - 1 + 8);
        }
        for (int row = 0; row < 81; row++) {
            int first = 1 + 3 * (row % 3) + row / 3 % 3;
            int second = 1 + 3 * (row / 9 % 3) + row / 27;
            Check.due("row " + row, x.judge(2, 999, row), first + second);
            Check.due("row " + row + " to 5", x.judge(2, 5, row), first >= 5 ? first : first + second);
        }
    }

    /** "THE SCORE that comes", once it is END or more, or -END or less. */
    private static void judgedToTheEnd() {
        NineDays x = tabled(-4, 4, 0, 3, -3, 0, 0, 1, -1);
        Check.due("down and up again", x.judge(2, 5, 0 + 27), 0);
        Check.due("down to -END", x.judge(2, 4, 0 + 27), -4);
        Check.due("up to END", x.judge(2, 4, 3), 4);
        Check.due("up, not to END", x.judge(2, 5, 3), 0);
        Check.due("up by one, then past END", x.judge(3, 2, 2 + 3 + 9), 4);
        Check.due("nothing is added after it", x.judge(6, 2, 2 + 3 + 9), 4);
        Check.due("END 1", x.judge(6, 1, 2 + 3 + 9), 1);
        Check.due("down by one, -END 1", x.judge(6, 1, 2 + 6 + 9), -1);
    }

    private static void besideOfNoHours() {
        NineDays x = new NineDays();
        x.need(0, 0, 9);
        Check.due("hours 0 to 0", x.beside(false), 0);
        Check.due("hours 0 to 0", x.beside(true), 0);
        x.go(0);
        Check.due("hours 0 to 0", x.beside(false), 0);
        x.go(1);
        Check.due("hour 0 alone", x.beside(false), 9);
        Check.due("hour 0 alone", x.beside(true), 9);
    }

    /** "what HUNGER there was": up to the last hour, as it was stepped. */
    private static void besideHunger() {
        NineDays x = new NineDays();
        for (int k = 0; k < 24; k++) x.need(k / 3, k % 3, k);
        int all = 0;
        for (int part : new int[] {100, 100, 40}) {
            all += x.go(part);
            Check.due("as they are", x.beside(false), all);
            Check.due("no calls, the same", x.beside(true), all);
        }
        Check.due("240 hours", all, 240 * 276);
    }

    /** "from STORES as they were set last by hand (not by hours)". */
    private static void besideStores() {
        NineDays x = new NineDays();
        for (int k = 0; k < 24; k++) {
            x.need(k / 3, k % 3, 1);
            x.store(k / 3, k % 3, k);
        }
        Check.due("hunger", x.go(24), 24 * 24 - 276);
        Check.due("from what was set", x.beside(false), 24 * 24 - 276);
        for (int k = 0; k < 24; k++) x.store(k / 3, k % 3, 24);
        Check.due("from what is set now", x.beside(false), 0);
        x.go(1);
        Check.due("the last hour is short of all", x.beside(false), 24);
        x.store(0, 0, 25);
        Check.due("but for one", x.beside(false), 23);
    }

    /** Union 0 slows what leaves town 0 in hour 30, if it is out then: the load comes in hour 40 or 50. */
    private static NineDays slowed() {
        NineDays x = new NineDays();
        x.road(0, 1, 10);
        Check.enact(x, 0, "fear 100;cost 10;pay 4;", 0);
        x.store(0, 0, 500);
        x.need(1, 0, 1);
        x.load(0, 500, 0, 1, 30);
        x.stamp(0, 2);
        return x;
    }

    /** "MEMBERS as they were set last by hand". */
    private static void besideMembers() {
        NineDays x = slowed();
        x.order(0, 0, 0, 0);
        Check.due("none is out", x.go(60), 40);
        Check.due("none is out", x.beside(false), 40);
        x.members(0, 0, 3);
        Check.due("three are out", x.beside(false), 50);
        x.members(0, 0, 0);
        Check.due("none again", x.beside(false), 40);
    }

    /** "PURSES, FUNDS as they were set last by hand (not by hours)". */
    private static void besidePursesAndFunds() {
        NineDays x = slowed();
        x.members(0, 0, 3);
        x.order(0, 0, 0, 0);
        Check.due("the purse of 20 is enough", x.go(60), 50);
        Check.due("it is lost by now", x.out(0, 0, 2), 0);
        Check.due("but was there", x.beside(false), 50);
        x.purse(0, 9);
        Check.due("a purse of 9 is too little: back in hour 24", x.beside(false), 40);
        x.purse(0, 10);
        Check.due("a purse of 10", x.beside(false), 50);
        x.purse(0, 6);
        Check.due("a purse of 6", x.beside(false), 40);
        x.fund(0, 11);
        Check.due("a fund for two heads", x.beside(false), 40);
        x.fund(0, 12);
        Check.due("a fund for three heads", x.beside(false), 50);
        x.fund(1, 12);
        x.fund(0, 0);
        Check.due("the fund of another union", x.beside(false), 40);
        NineDays y = slowed();
        y.members(0, 0, 3);
        y.purse(0, 6);
        y.fund(0, 12);
        y.order(0, 0, 0, 0);
        Check.due("paid in hour 24", y.go(60), 50);
        Check.due("the fund is empty", y.last(0), 0);
        Check.due("but was there", y.beside(false), 50);
        everyFundAndPurse();
    }

    /** Each union has its own fund and purse. */
    private static void everyFundAndPurse() {
        NineDays x = slowed();
        x.members(0, 0, 1);
        x.order(0, 0, 0, 0);
        for (int u = 0; u < 6; u++) x.purse(u, 6);
        for (int u = 1; u < 6; u++) x.fund(u, 99);
        Check.due("back in hour 24", x.go(60), 40);
        Check.due("back in hour 24", x.beside(false), 40);
        for (int u = 1; u < 6; u++) x.purse(u, 999);
        Check.due("the purses of others", x.beside(false), 40);
        x.fund(0, 4);
        Check.due("its own fund", x.beside(false), 50);
    }

    /** "with all CALLS in the hour of the first one of them (without: as they are)". */
    private static void besideCalls() {
        NineDays x = slowed();
        x.members(0, 0, 3);
        x.purse(0, 999);
        x.order(0, 3, 5, 30);
        x.order(0, 0, 0, 31);
        Check.due("called out an hour too late", x.go(60), 40);
        Check.due("as they are", x.beside(false), 40);
        Check.due("all in hour 30", x.beside(true), 50);
        NineDays y = slowed();
        y.members(0, 0, 3);
        y.purse(0, 999);
        y.order(1, 3, 5, 0);
        y.order(2, 3, 5, 0);
        y.order(3, 3, 5, 0);
        y.order(0, 0, 0, 31);
        Check.due("one call", y.go(60), 40);
        Check.due("recalls, bans and lifts are no calls", y.beside(true), 40);
        NineDays z = slowed();
        z.members(0, 0, 3);
        z.purse(0, 999);
        z.order(0, 0, 0, 31);
        z.order(1, 0, 0, 20);
        z.order(0, 1, 0, 10);
        Check.due("called too late", z.go(60), 40);
        Check.due("called in hour 10, but recalled in hour 20", z.beside(true), 40);
        NineDays w = slowed();
        w.members(0, 0, 3);
        w.purse(0, 999);
        w.order(0, 0, 2, 240);
        w.road(0, 2, 5);
        w.order(0, 1, 2, 25);
        w.go(60);
        Check.due("told for hour 240", w.beside(false), 40);
        Check.due("in hour 25 from town 2, in hour 30 in town 0", w.beside(true), 50);
        NineDays v = slowed();
        v.members(0, 0, 3);
        v.purse(0, 999);
        v.order(0, 0, 2, 240);
        v.road(0, 2, 6);
        v.order(0, 1, 2, 25);
        v.go(60);
        Check.due("an hour too late by its road", v.beside(true), 40);
    }

    /** "with LOADS and STAMPS as they are now". */
    private static void besideLoads() {
        NineDays x = new NineDays();
        x.road(0, 1, 1);
        x.need(1, 0, 1);
        x.store(0, 0, 300);
        x.load(0, 100, 0, 1, 5);
        Check.due("no stamp", x.go(50), 50);
        Check.due("no stamp", x.beside(false), 50);
        x.stamp(0, 2);
        Check.due("stamped now, in force from its hour on", x.beside(false), 6);
        Check.due("in the days themselves it waits", x.told(0, 6), 0);
        x.go(2);
        Check.due("there", x.told(0, 6), 2);
        Check.due("hunger so far", x.count(10), 51);
        Check.due("beside it was there before", x.beside(false), 6);
        NineDays y = new NineDays();
        y.need(1, 0, 1);
        y.store(0, 0, 300);
        y.load(0, 100, 0, 1, 5);
        y.stamp(0, 2);
        y.go(50);
        Check.due("stopped", y.told(0, 6), 3);
        y.road(0, 1, 1);
        Check.due("by the road that there is now", y.beside(false), 6);
        Check.due("stopped it stays", y.told(0, 6), 3);
    }

    /** The days themselves go on as if BESIDE had not been asked. */
    private static void besideChangesNothing() {
        Refused.Setup busy = BoundsTest::busy;
        Refused.changesNothing("beside(false)", busy, x -> x.beside(false));
        Refused.changesNothing("beside(true)", busy, x -> x.beside(true));
        Refused.changesNothing("go(0)", busy, x -> x.go(0));
        Refused.changesNothing("game", busy, x -> x.game(6, 999, 1));
        Refused.changesNothing("judge", busy, x -> x.judge(6, 999, 4711));
        Refused.changesNothing("binds", busy, x -> x.binds(255, 30, 7));
        Refused.changesNothing("words", busy, NineDays::words);
        Refused.changesNothing("clash", busy, x -> x.clash(3));
        Refused.changesNothing("called", busy, x -> x.called(0, 0, 240));
        Refused.changesNothing("force", busy, x -> x.force(3, 240));
        Refused.changesNothing("lending", busy, x -> x.lending(63));
    }
}
