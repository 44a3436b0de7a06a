/** Promises 12 to 16. */
public final class OrdersTest {
    public static void main(String[] args) {
        reaches();
        lates();
        holding();
        bans();
        calledBefore();
        roadsAfterwards();
        Check.end();
    }

    private static NineDays row() {
        NineDays x = new NineDays();
        x.road(0, 1, 3);
        x.road(1, 2, 4);
        return x;
    }

    private static void reaches() {
        NineDays x = row();
        Check.due("order", x.order(3, 5, 2, 240), 0);
        Check.due("own town", x.reach(0, 2), 240);
        Check.due("beyond the hours", x.reach(0, 0), 247);
        Check.due("no way", x.reach(0, 7), -1);
        for (int o = 1; o < 40; o++) Check.due("order " + o, x.order(0, 0, 0, 0), o);
        Check.due("a forty-first", x.order(0, 0, 0, 0), NineDays.FULL);
        Check.due("OUTSIDE ahead of FULL", x.order(4, 0, 0, 0), NineDays.OUTSIDE);
        Check.due("UNKNOWN ahead of OUTSIDE", x.order(4, 6, 0, 0), NineDays.UNKNOWN);
        Check.due("orders", x.count(2), 40);
    }

    private static void lates() {
        NineDays x = row();
        x.order(0, 1, 0, 10);
        x.order(1, 1, 0, 10);
        Check.due("of its own hour: not late", x.late(0), 0);
        x.order(1, 2, 0, 11);
        Check.due("for another union: not late", x.late(0), 0);
        x.order(0, 1, 0, 12);
        Check.due("of the same kind: not late", x.late(0), 0);
        Check.due("the recall is", x.late(1), 6);
        x.order(2, 1, 0, 12);
        Check.due("of the other pair: not late", x.late(0), 0);
        x.order(1, 1, 5, 17);
        Check.due("in the hour in which it comes: late, wherever told", x.late(0), 4);
        x.order(1, 1, 0, 13);
        Check.due("not after that in which it comes", x.late(0), 6);
        x.order(3, 1, 2, 16);
        Check.due("the ban where it comes at 19", x.late(4), 4);
        Check.due("the later ones are not", x.late(7), 0);
        NineDays y = row();
        y.order(1, 0, 7, 2);
        y.order(0, 0, 1, 0);
        Check.due("overtaken by a lesser number, not in its own town", y.late(1), 5);
    }

    private static void holding() {
        NineDays x = row();
        x.order(0, 0, 0, 5);
        x.order(1, 0, 1, 2);
        Check.due("none yet", x.holds(0, 0, 4, 0), -1);
        Check.due("of one hour the greater number", x.holds(0, 0, 5, 0), 1);
        Check.due("recalled", x.called(0, 0, 5), 0);
        Check.due("in town 1 first the recall", x.holds(0, 1, 7, 0), 1);
        Check.due("in town 1 then the call", x.holds(0, 1, 8, 0), 0);
        Check.due("in town 1 called", x.called(0, 1, 240), 1);
        Check.due("in town 2", x.holds(0, 2, 12, 0), 0);
        Check.due("in town 2 before", x.holds(0, 2, 11, 0), 1);
        Check.due("of another union", x.holds(1, 2, 11, 0), -1);
        Check.due("of the other pair", x.holds(0, 2, 11, 1), -1);
        Check.due("no way there", x.called(0, 3, 240), 0);
    }

    private static void bans() {
        NineDays x = row();
        x.members(4, 0, 9);
        x.order(0, 4, 0, 1);
        Check.due("hour 0", x.called(4, 0, 0), 0);
        Check.due("hour 0", x.holds(4, 0, 0, 0), -1);
        x.order(2, 4, 0, 3);
        x.order(3, 4, 0, 6);
        Check.due("before the ban", x.called(4, 0, 2), 1);
        Check.due("banned", x.called(4, 0, 3), 0);
        Check.due("the call still holds", x.holds(4, 0, 5, 0), 0);
        Check.due("the ban holds", x.holds(4, 0, 5, 1), 1);
        Check.due("lifted", x.called(4, 0, 6), 1);
        Check.due("the lift holds", x.holds(4, 0, 6, 1), 2);
        x.go(2);
        x.members(4, 0, 5);
        x.members(4, 0, 9);
        x.go(1);
        Check.due("as many as were", x.out(4, 0, 1), 5);
        x.go(1);
        Check.due("none by the ban", x.out(4, 0, 1), 0);
        x.go(3);
        Check.due("all after the lift", x.out(4, 0, 1), 9);
        Check.due("a ban alone calls none", x.order(2, 5, 0, 7), 3);
        Check.due("none", x.called(5, 0, 9), 0);
        Check.due("nor does a lift", x.order(3, 5, 0, 8), 4);
        Check.due("none still", x.called(5, 0, 9), 0);
    }

    private static void calledBefore() {
        NineDays x = new NineDays();
        x.members(0, 0, 8);
        x.order(0, 0, 0, 0);
        x.go(1);
        x.members(0, 0, 3);
        x.members(0, 0, 8);
        x.go(1);
        Check.due("called in the hour ahead, by another go", x.out(0, 0, 1), 3);
        x.order(0, 1, 0, 9);
        Check.due("each call in its own hour", x.called(1, 0, 8), 0);
        Check.due("each call in its own hour", x.holds(1, 0, 8, 0), -1);
    }

    private static void roadsAfterwards() {
        NineDays x = new NineDays();
        x.order(0, 0, 0, 0);
        Check.due("no way", x.reach(0, 1), -1);
        x.road(0, 1, 9);
        Check.due("a way", x.reach(0, 1), 9);
        x.road(0, 1, 2);
        Check.due("a shorter way", x.reach(0, 1), 2);
    }
}
