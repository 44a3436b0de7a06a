/** Promises 21 to 26. */
public final class LoadsTest {
    public static void main(String[] args) {
        loads();
        stamps();
        ways();
        slow();
        overflow();
        shared();
        clashes();
        words();
        goes();
        Check.end();
    }

    private static void tells(NineDays x, int l, int... want) {
        for (int w = 0; w < 9; w++) Check.due("told " + l + " " + w, x.told(l, w), want[w]);
    }

    private static void loads() {
        NineDays x = new NineDays();
        Check.due("load", x.load(2, 999, 7, 0, 240), 0);
        tells(x, 0, 2, 999, 7, 0, 240, 0, 0, -1, -1);
        for (int l = 1; l < 40; l++) Check.due("load " + l, x.load(0, 1, 0, 1, 0), l);
        Check.due("a forty-first", x.load(0, 1, 0, 1, 0), NineDays.FULL);
        Check.due("OUTSIDE ahead of FULL", x.load(0, 1, 0, 0, 0), NineDays.OUTSIDE);
        Check.due("UNKNOWN ahead of OUTSIDE", x.load(3, 1, 0, 8, 0), NineDays.UNKNOWN);
        Check.due("waiting", x.count(4), 40);
    }

    private static void stamps() {
        NineDays x = new NineDays();
        x.road(0, 1, 2);
        x.store(0, 2, 10);
        x.load(2, 10, 0, 1, 1);
        Check.due("owners", x.stamp(0, 0), 1);
        Check.due("union", x.stamp(0, 2), 5);
        Check.due("again", x.stamp(0, 2), NineDays.NOT);
        x.go(2);
        tells(x, 0, 2, 10, 0, 1, 1, 5, 0, -1, -1);
        Check.due("state", x.stamp(0, 3), 13);
        x.go(1);
        tells(x, 0, 2, 10, 0, 1, 1, 13, 1, 2, 4);
        Check.due("the store has lost it", x.town(0, 2), 0);
        Check.due("not waiting", x.stamp(0, 1), NineDays.NOT);
        Check.due("OUTSIDE ahead of NOT", x.stamp(0, 4), NineDays.OUTSIDE);
        x.go(1);
        Check.due("on the way", x.count(5), 1);
        x.go(1);
        tells(x, 0, 2, 10, 0, 1, 1, 13, 2, 2, 4);
        Check.due("the store has it", x.town(1, 2), 10);
        Check.due("there", x.count(6), 1);
    }

    private static void ways() {
        NineDays x = new NineDays();
        x.load(0, 5, 0, 1, 0);
        x.load(0, 5, 0, 2, 3);
        x.stamp(1, 2);
        x.go(3);
        Check.due("without stamps it waits, way or not", x.told(0, 6), 0);
        Check.due("before its hour it waits", x.told(1, 6), 0);
        x.go(1);
        Check.due("no way, ahead of an empty store", x.told(1, 6), 3);
        tells(x, 1, 0, 5, 0, 2, 3, 4, 3, -1, -1);
        x.road(0, 2, 1);
        x.store(0, 0, 50);
        x.go(1);
        Check.due("stopped for good", x.told(1, 6), 3);
        Check.due("not waiting", x.stamp(1, 0), NineDays.NOT);
        Check.due("stopped", x.count(7), 1);
        x.road(0, 1, 1);
        x.stamp(0, 2);
        x.go(1);
        Check.due("on the way", x.told(0, 8), 6);
        x.road(0, 1, 1);
        x.go(1);
        Check.due("it came", x.told(0, 6), 2);
    }

    private static void slow() {
        NineDays x = new NineDays();
        x.road(0, 1, 10);
        x.road(1, 2, 30);
        x.members(0, 0, 1);
        x.members(1, 1, 1);
        x.order(0, 0, 0, 0);
        x.order(0, 1, 1, 0);
        x.store(0, 0, 5);
        x.store(1, 0, 5);
        Check.enact(x, 0, "slow 9;need bread state;", 0);
        x.load(0, 5, 0, 2, 0);
        x.load(0, 5, 1, 0, 0);
        x.load(0, 5, 1, 0, 11);
        x.stamp(0, 3);
        x.stamp(1, 3);
        x.stamp(2, 3);
        x.go(1);
        Check.due("nine times", x.told(0, 8), 360);
        Check.due("another union does not slow", x.told(1, 8), 10);
        x.store(1, 0, 5);
        x.go(11);
        Check.due("union 0 has no members there", x.told(2, 8), 21);
        Check.due("a load that comes after all hours", x.told(0, 6), 1);
    }

    private static void overflow() {
        NineDays x = new NineDays();
        x.road(0, 1, 1);
        x.store(0, 0, 999);
        x.store(1, 0, 9500);
        x.need(1, 0, 7);
        x.load(0, 999, 0, 1, 0);
        x.stamp(0, 2);
        x.go(2);
        Check.due("9999 at most, then used", x.town(1, 0), 9992);
    }

    private static void shared() {
        NineDays x = new NineDays();
        x.road(0, 1, 1);
        x.road(1, 2, 1);
        x.store(0, 0, 10);
        x.need(0, 0, 3);
        x.load(0, 8, 0, 1, 0);
        x.load(0, 8, 0, 1, 0);
        x.load(0, 2, 0, 1, 0);
        x.load(0, 10, 1, 2, 0);
        for (int l = 0; l < 4; l++) x.stamp(l, 2);
        Check.due("loads go ahead of needs", x.go(1), 3);
        Check.due("by numbers", x.told(0, 6), 1);
        Check.due("too little for it", x.told(1, 6), 0);
        Check.due("enough for it", x.told(2, 6), 1);
        Check.due("nothing to send yet", x.told(3, 6), 0);
        Check.due("an hour", x.go(1), 3);
        Check.due("sent in the hour in which it came", x.told(3, 7), 1);
    }

    private static void clashes() {
        NineDays x = new NineDays();
        x.road(0, 1, 1);
        for (int l = 0; l < 5; l++) x.load(2, 1, 0, 1, 0);
        x.load(1, 1, 0, 1, 0);
        x.stamp(1, 2);
        x.stamp(2, 0);
        x.stamp(3, 3);
        x.stamp(4, 2);
        x.stamp(4, 3);
        x.stamp(5, 0);
        Check.due("some, not all", x.clash(0), 1);
        Check.due("the next", x.clash(1), 3);
        Check.due("no more", x.clash(2), -1);
        Check.due("below", x.clash(-1), -1);
        Check.due("far", x.clash(Integer.MAX_VALUE), -1);
        Check.enact(x, 1, "need milk owners,council;need coal owners,union;", 0);
        Check.due("not yet", x.clash(2), -1);
        x.go(1);
        Check.due("by rules of NOW", x.clash(1), 2);
        Check.due("by rules of NOW", x.clash(2), 4);
        Check.due("milk too", x.clash(3), 5);
        Check.due("3 has none that it needs", x.clash(4), -1);
        Check.enact(x, 1, "need coal union;", 1);
        Check.due("only milk", x.clash(0), 5);
        Check.enact(x, 1, "need coal owners,union;", 2);
        x.store(0, 2, 1);
        x.stamp(1, 0);
        x.go(1);
        Check.due("1 is on the way", x.told(1, 6), 1);
        Check.due("only those that wait", x.clash(0), 2);
    }

    private static void words() {
        NineDays x = new NineDays();
        x.road(0, 1, 1);
        x.load(0, 1, 0, 1, 0);
        Check.due("union for bread", x.words(), 4);
        x.load(2, 1, 0, 2, 0);
        Check.due("union, state", x.words(), 12);
        x.stamp(0, 2);
        x.stamp(1, 2);
        Check.due("state alone", x.words(), 8);
        x.stamp(1, 3);
        Check.due("none", x.words(), 0);
        x.store(0, 0, 1);
        x.go(1);
        Check.due("stopped", x.told(1, 6), 3);
        Check.enact(x, 1, "need bread owners;need coal council;", 0);
        Check.due("stopped ones count, those on the way do not", x.words(), 2);
        x.go(1);
        Check.due("nor those that are there", x.words(), 2);
    }

    private static void goes() {
        NineDays x = new NineDays();
        x.need(0, 0, 2);
        Check.due("no hours", x.go(0), 0);
        Check.due("a hundred", x.go(100), 200);
        Check.due("a hundred more", x.go(100), 200);
        Check.due("too many", x.go(41), NineDays.NOT);
        Check.due("OUTSIDE ahead of NOT", x.go(101), NineDays.OUTSIDE);
        Check.due("below", x.go(-1), NineDays.OUTSIDE);
        Check.due("up to the end", x.go(40), 80);
        Check.due("the end", x.count(0), 240);
        Check.due("not one more", x.go(1), NineDays.NOT);
        Check.due("none", x.go(0), 0);
        Check.due("a load in the last hour", x.load(0, 1, 0, 1, 240), 0);
        Check.due("not before", x.load(0, 1, 0, 1, 239), NineDays.OUTSIDE);
        Check.due("hunger", x.count(10), 480);
        Check.due("clash by hour 240", x.clash(0), -1);
    }
}
