/** Promises 12 to 16: the edges that their sentences name, each with a test of its own. */
public final class OrdersEdgesTest {
    public static void main(String[] args) {
        fortyAtMost();
        hoursFromNow();
        hourAndAway();
        reachedByThen();
        lastOfAll();
        greaterNumber();
        aCallAndNoBan();
        firstAndLastHour();
        lateByAnHour();
        lateInEveryTown();
        lateOfWhom();
        notLateWhereItNeverComes();
        wordInAnHourStepped();
        Check.end();
    }

    /** Towns 0 to 3 in a row, an hour between each two. */
    private static NineDays row() {
        NineDays x = new NineDays();
        for (int t = 0; t < 3; t++) x.road(t, t + 1, 1);
        return x;
    }

    /** "ORDERS (40 at most)". */
    private static void fortyAtMost() {
        NineDays x = new NineDays();
        for (int o = 0; o < 40; o++) {
            Check.due("orders before", x.count(2), o);
            Check.due("order " + o, x.order(o % 4, o % 6, o % 8, o), o);
        }
        Check.due("a forty-first", x.order(0, 0, 0, 0), NineDays.FULL);
        Check.due("orders", x.count(2), 40);
        for (int o = 0; o < 40; o++) Check.due("reach " + o, x.reach(o, o % 8), o);
        Check.due("none has number 40", x.reach(40, 0), NineDays.UNKNOWN);
        Check.due("none has number 40", x.late(40), NineDays.UNKNOWN);
    }

    /** "at an hour (NOW .. 240)". */
    private static void hoursFromNow() {
        NineDays x = new NineDays();
        Check.due("hour 0", x.order(0, 0, 0, 0), 0);
        Check.due("hour -1", x.order(0, 0, 0, -1), NineDays.OUTSIDE);
        x.go(1);
        Check.due("hour 0 is over", x.order(0, 0, 0, 0), NineDays.OUTSIDE);
        Check.due("hour 1", x.order(0, 0, 0, 1), 1);
        x.go(99);
        Check.due("hour 99 is over", x.order(0, 0, 0, 99), NineDays.OUTSIDE);
        Check.due("hour 100", x.order(0, 0, 0, 100), 2);
        x.go(100);
        x.go(40);
        Check.due("hour 239 is over", x.order(0, 0, 0, 239), NineDays.OUTSIDE);
        Check.due("hour 240", x.order(0, 0, 0, 240), 3);
        Check.due("hour 241", x.order(0, 0, 0, 241), NineDays.OUTSIDE);
        Check.due("orders", x.count(2), 4);
    }

    /** "An ORDER REACHES a TOWN in its hour and AWAY." */
    private static void hourAndAway() {
        NineDays x = new NineDays();
        for (int t = 0; t < 6; t++) x.road(t, t + 1, 30);
        for (int o = 0; o < 8; o++) x.order(o % 4, o % 6, o, 10 * o);
        for (int k = 0; k < 64; k++) {
            int o = k / 8;
            int t = k % 8;
            int want = o == t ? 10 * o : o == 7 || t == 7 ? NineDays.NONE : 10 * o + 30 * Math.abs(o - t);
            Check.due("order " + o + " reaches " + t, x.reach(o, t), want);
        }
        x.road(6, 7, 30);
        Check.due("the farthest town", x.reach(0, 7), 210);
        x.order(0, 0, 7, 240);
        Check.due("after all hours", x.reach(8, 0), 450);
        Check.due("in the last hour", x.reach(8, 7), 240);
    }

    /** "of all that have by then": in the hour in which it comes, not in the one ahead. */
    private static void reachedByThen() {
        NineDays x = row();
        x.order(0, 5, 0, 7);
        x.order(2, 5, 0, 20);
        for (int t = 0; t < 4; t++) {
            Check.due("the hour ahead in " + t, x.holds(5, t, 6 + t, 0), NineDays.NONE);
            Check.due("not called yet in " + t, x.called(5, t, 6 + t), 0);
            Check.due("the hour itself in " + t, x.holds(5, t, 7 + t, 0), 0);
            Check.due("called in " + t, x.called(5, t, 7 + t), 1);
            Check.due("the hour ahead of the ban in " + t, x.holds(5, t, 19 + t, 1), NineDays.NONE);
            Check.due("called still in " + t, x.called(5, t, 19 + t), 1);
            Check.due("the hour of the ban in " + t, x.holds(5, t, 20 + t, 1), 1);
            Check.due("banned in " + t, x.called(5, t, 20 + t), 0);
        }
        Check.due("where it never comes", x.holds(5, 4, 240, 0), NineDays.NONE);
    }

    /** "holds that which REACHED it last": neither the greater number nor the later hour of telling, but the later coming. */
    private static void lastOfAll() {
        for (int pair = 0; pair < 2; pair++) {
            NineDays x = row();
            x.order(2 * pair, 1, 3, 8);
            x.order(2 * pair + 1, 1, 0, 10);
            Check.due("the lesser number came last", x.holds(1, 0, 11, pair), 0);
            Check.due("the greater number an hour before", x.holds(1, 0, 10, pair), 1);
            Check.due("and where it came last", x.holds(1, 2, 12, pair), 1);
            Check.due("there the lesser one before", x.holds(1, 2, 11, pair), 0);
            x.order(2 * pair, 1, 0, 9);
            Check.due("told last, come first", x.holds(1, 0, 10, pair), 1);
            Check.due("it held for an hour", x.holds(1, 0, 9, pair), 2);
            Check.due("of the other pair none", x.holds(1, 0, 240, 1 - pair), NineDays.NONE);
        }
    }

    /** "(of one hour the greater number); of BAN and LIFT likewise." */
    private static void greaterNumber() {
        for (int pair = 0; pair < 2; pair++) {
            NineDays x = row();
            x.order(2 * pair, 1, 2, 8);
            x.order(2 * pair + 1, 1, 0, 10);
            x.order(2 * pair, 1, 1, 9);
            Check.due("three in one hour", x.holds(1, 0, 10, pair), 2);
            Check.due("two in one hour", x.holds(1, 1, 9, pair), 2);
            Check.due("not that of before", x.holds(1, 1, 10, pair), 2);
            Check.due("then the other one", x.holds(1, 1, 11, pair), 1);
            x.order(2 * pair + 1, 1, 0, 10);
            Check.due("a fourth", x.holds(1, 0, 10, pair), 3);
            x.order(2 * pair, 2, 0, 10);
            Check.due("for another union", x.holds(1, 0, 10, pair), 3);
            Check.due("that of the other union", x.holds(2, 0, 10, pair), 4);
        }
    }

    /** "A UNION is CALLED in a TOWN, if a CALL holds there, and no BAN": each way of holding. */
    private static void aCallAndNoBan() {
        for (int first = -1; first < 2; first++) {
            for (int second = -1; second < 4; second++) {
                if (second == 0 || second == 1) continue;
                NineDays x = new NineDays();
                if (first >= 0) x.order(first, 3, 4, 5);
                if (second >= 0) x.order(second, 3, 4, 5);
                int want = first == 0 && second != 2 ? 1 : 0;
                Check.due("kinds " + first + " and " + second, x.called(3, 4, 5), want);
                Check.due("before, kinds " + first + " and " + second, x.called(3, 4, 4), 0);
            }
        }
    }

    /** "in an hour (0 .. 240)". */
    private static void firstAndLastHour() {
        NineDays x = new NineDays();
        x.order(0, 0, 0, 0);
        x.order(0, 1, 0, 240);
        x.order(2, 2, 0, 240);
        x.order(0, 3, 0, 1);
        Check.due("called in hour 0", x.called(0, 0, 0), 1);
        Check.due("called in hour 240", x.called(0, 0, 240), 1);
        Check.due("not called in hour 239", x.called(1, 0, 239), 0);
        Check.due("called in hour 240", x.called(1, 0, 240), 1);
        Check.due("holds in hour 0", x.holds(0, 0, 0, 0), 0);
        Check.due("holds in hour 240", x.holds(1, 0, 240, 0), 1);
        Check.due("not in hour 239", x.holds(1, 0, 239, 0), NineDays.NONE);
        Check.due("the ban in hour 240", x.holds(2, 0, 240, 1), 2);
        Check.due("not the ban in hour 239", x.holds(2, 0, 239, 1), NineDays.NONE);
        Check.due("not in hour 0", x.called(3, 0, 0), 0);
        Check.due("in hour 1", x.called(3, 0, 1), 1);
        Check.due("an order of hour 240 is not late in its own town", x.late(1), 0);
    }

    /** "was told for an hour after its own, not after that in which it comes there". */
    private static void lateByAnHour() {
        for (int pair = 0; pair < 2; pair++) {
            for (int own = 0; own < 2; own++) {
                for (int hour = 8; hour <= 15; hour++) {
                    NineDays x = row();
                    x.order(2 * pair + own, 4, 0, 10);
                    x.order(2 * pair + 1 - own, 4, 7, hour);
                    int want = 0;
                    for (int t = 0; t < 4; t++) if (hour > 10 && hour <= 10 + t) want |= 1 << t;
                    Check.due("kind " + (2 * pair + own) + ", the other one told for " + hour, x.late(0), want);
                }
            }
        }
    }

    /** "The SET of TOWNS for which an ORDER is LATE": from every town to every other one. */
    private static void lateInEveryTown() {
        for (int a = 0; a < 8; a++) {
            NineDays x = new NineDays();
            for (int t = 0; t < 8; t++) if (t != a) x.road(a, t, 1 + t);
            x.order(0, 0, a, 100);
            for (int after = 9; after > 0; after--) {
                x.order(1, 0, a, 100 + after);
                int want = 0;
                for (int t = 0; t < 8; t++) if (t != a && 1 + t >= after) want |= 1 << t;
                Check.due("from " + a + ", recalled " + after + " hours later", x.late(0), want);
            }
        }
    }

    /** "an ORDER of the other KIND of its pair (0 with 1, 2 with 3) for the same UNION". */
    private static void lateOfWhom() {
        for (int kind = 0; kind < 4; kind++) {
            for (int other = 0; other < 4; other++) {
                NineDays x = row();
                x.order(kind, 2, 0, 10);
                x.order(other, 3, 0, 11);
                x.order(other, 1, 0, 11);
                Check.due("for other unions: " + kind + " with " + other, x.late(0), 0);
                x.order(other, 2, 0, 11);
                int want = (kind ^ other) == 1 ? 14 : 0;
                Check.due("for its own: " + kind + " with " + other, x.late(0), want);
            }
        }
        NineDays y = row();
        y.order(1, 2, 3, 11);
        y.order(0, 2, 0, 10);
        Check.due("the other one has the lesser number", y.late(1), 14);
        Check.due("and is not late itself", y.late(0), 0);
    }

    /** "LATE is an ORDER for a TOWN that it REACHES". */
    private static void notLateWhereItNeverComes() {
        NineDays x = row();
        x.order(0, 2, 0, 10);
        x.order(1, 2, 5, 11);
        Check.due("not where it never comes", x.late(0), 14);
        x.road(3, 4, 30);
        Check.due("where it comes now", x.late(0), 30);
        NineDays y = new NineDays();
        y.order(0, 2, 0, 10);
        y.order(1, 2, 0, 11);
        Check.due("no roads at all", y.late(0), 0);
    }

    /** Word that comes in an hour calls out in that hour. */
    private static void wordInAnHourStepped() {
        NineDays x = row();
        for (int t = 0; t < 4; t++) x.members(1, t, 10 + t);
        x.order(0, 1, 3, 0);
        x.order(1, 1, 3, 2);
        int[] want = {13, 13 + 12, 12 + 11, 11 + 10, 10, 0};
        for (int h = 0; h < 6; h++) {
            x.go(1);
            Check.due("out after hour " + h, x.count(9), want[h]);
        }
    }
}
