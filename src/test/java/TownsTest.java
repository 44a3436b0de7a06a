/** Promises 1 to 11. */
public final class TownsTest {
    public static void main(String[] args) {
        newObject();
        roads();
        stores();
        unions();
        whoIsOut();
        purses();
        counts();
        Check.end();
    }

    private static void newObject() {
        NineDays x = new NineDays();
        for (int w = 0; w < 14; w++) Check.due("new: count " + w, x.count(w), 0);
        for (int t = 0; t < 8; t++) {
            for (int w = 0; w < 6; w++) Check.due("new: town " + t + " " + w, x.town(t, w), 0);
            for (int w = 6; w < 9; w++) Check.due("new: town " + t + " " + w, x.town(t, w), -1);
            for (int g = 0; g < 3; g++) Check.due("new: need " + t + " " + g, x.need(t, g, 0), 0);
            for (int b = 0; b < 8; b++) Check.due("new: away " + t + " " + b, x.away(t, b), t == b ? 0 : -1);
            for (int u = 0; u < 6; u++) {
                for (int w = 0; w < 4; w++) Check.due("new: out " + u + " " + t + " " + w, x.out(u, t, w), w == 2 ? 20 : 0);
            }
        }
        for (int u = 0; u < 6; u++) Check.due("new: fund " + u, x.fund(u, 0), 0);
        Check.due("new: fault", x.fault(), -1);
        Check.due("new: words", x.words(), 0);
        Check.due("new: clash", x.clash(0), -1);
        Check.due("new: beside", x.beside(true), 0);
        Check.due("new: table", x.table(2, 2, 0), 0);
    }

    private static void roads() {
        NineDays x = new NineDays();
        Check.due("road", x.road(0, 1, 30), 1);
        Check.due("road back", x.away(1, 0), 30);
        Check.due("a second road of the same towns", x.road(1, 0, 7), 2);
        Check.due("the shorter one counts", x.away(0, 1), 7);
        Check.due("a longer one beside", x.road(0, 1, 29), 3);
        Check.due("the shorter one still counts", x.away(0, 1), 7);
        Check.due("a row of roads", x.road(1, 2, 1), 4);
        Check.due("apart from it", x.road(3, 4, 2), 5);
        Check.due("no way", x.away(0, 4), -1);
        Check.due("joined", x.road(4, 2, 3), 6);
        Check.due("through all", x.away(0, 3), 13);
        Check.due("a short cut", x.road(0, 4, 1), 7);
        Check.due("by the short cut", x.away(0, 3), 3);
        Check.due("another by it", x.away(0, 2), 4);
        Check.due("and another", x.away(1, 0), 5);
        for (int n = 8; n <= 14; n++) Check.due("road " + n, x.road(6, 7, 30), n);
        Check.due("a fifteenth", x.road(0, 5, 1), NineDays.FULL);
        Check.due("it did not come", x.away(0, 5), -1);
        Check.due("UNKNOWN ahead of FULL", x.road(0, 8, 1), NineDays.UNKNOWN);
        Check.due("OUTSIDE ahead of FULL", x.road(0, 0, 1), NineDays.OUTSIDE);
        Check.due("roads", x.count(1), 14);
        NineDays y = new NineDays();
        for (int t = 0; t < 7; t++) y.road(t, t + 1, 30);
        Check.due("the farthest", y.away(7, 0), 210);
    }

    private static void stores() {
        NineDays x = new NineDays();
        Check.due("store", x.store(7, 2, 9999), 0);
        Check.due("store again", x.store(7, 2, 5), 9999);
        Check.due("it is in its town", x.town(7, 2), 5);
        Check.due("not in another good", x.town(7, 1), 0);
        Check.due("need", x.need(7, 2, 99), 0);
        Check.due("need again", x.need(7, 2, 2), 99);
        Check.due("an hour", x.go(1), 0);
        Check.due("used", x.town(7, 2), 3);
        Check.due("never lacked", x.town(7, 8), -1);
        Check.due("two hours", x.go(2), 1);
        Check.due("empty", x.town(7, 2), 0);
        Check.due("hunger", x.town(7, 5), 1);
        Check.due("since", x.town(7, 8), 2);
        Check.due("an hour more", x.go(1), 2);
        Check.due("the first hour stays", x.town(7, 8), 2);
        Check.due("what hours have left of it", x.store(7, 2, 1), 0);
        Check.due("nothing is a store too", x.store(7, 2, 0), 1);
        Check.due("hunger of the first good", x.town(7, 3), 0);
        x.store(7, 0, 4);
        Check.due("and its store", x.town(7, 0), 4);
        Check.due("are two things", x.town(7, 3), 0);
        Check.due("hunger in all", x.count(10), 3);
    }

    private static void unions() {
        NineDays x = new NineDays();
        Check.due("members", x.members(5, 7, 999), 0);
        Check.due("members again", x.members(5, 7, 12), 999);
        Check.due("told", x.out(5, 7, 0), 12);
        Check.due("none", x.members(5, 7, 0), 12);
        Check.due("some again", x.members(5, 7, 12), 0);
        Check.due("not elsewhere", x.out(5, 6, 0), 0);
        Check.due("fund", x.fund(5, 99999), 0);
        Check.due("fund again", x.fund(5, 30), 99999);
        Check.due("purse", x.purse(5, 999), 1);
        for (int t = 0; t < 8; t++) Check.due("purse in " + t, x.out(5, t, 2), 999);
        Check.due("purse of another", x.out(4, 7, 2), 20);
        x.order(0, 5, 7, 0);
        x.go(25);
        Check.due("what pay has left", x.fund(5, 0), 6);
    }

    private static void whoIsOut() {
        NineDays x = new NineDays();
        x.members(1, 0, 100);
        x.members(1, 1, 10);
        x.order(0, 1, 0, 0);
        x.order(0, 1, 1, 0);
        Check.due("none before an hour", x.out(1, 0, 1), 0);
        x.go(1);
        Check.due("all out", x.out(1, 0, 1), 100);
        x.members(1, 0, 140);
        Check.due("more do not go out", x.out(1, 0, 1), 100);
        x.members(1, 0, 60);
        Check.due("fewer cut those out", x.out(1, 0, 1), 60);
        x.members(1, 0, 100);
        x.go(1);
        Check.due("as many as were", x.out(1, 0, 1), 60);
        Check.due("out in all", x.count(9), 70);
        Check.due("none went back", x.count(13), 0);
    }

    private static void purses() {
        NineDays x = new NineDays();
        x.members(0, 0, 10);
        x.members(0, 1, 10);
        x.members(0, 2, 10);
        x.fund(0, 30);
        x.purse(0, 5);
        x.order(0, 0, 0, 0);
        x.order(0, 0, 1, 0);
        x.go(24);
        Check.due("no pay in hour 0 nor up to 23", x.fund(0, 30), 30);
        x.go(1);
        Check.due("town 0 got pay", x.out(0, 0, 2), 2);
        Check.due("town 1 got half: no gain", x.out(0, 1, 2), 0);
        Check.due("town 2 has none out", x.out(0, 2, 2), 5);
        Check.due("purse 0 is not below 0", x.out(0, 1, 3), 0);
        Check.due("the fund is empty", x.fund(0, 21), 0);
        x.go(24);
        Check.due("town 0 paid again", x.out(0, 0, 2), 0);
        Check.due("below 0 for town 0", x.out(0, 0, 3), 3);
        Check.due("below 0 for town 1", x.out(0, 1, 3), 3);
        Check.due("the odd coin stays", x.fund(0, 0), 1);
        Check.due("out in town 0", x.out(0, 0, 1), 7);
        Check.due("members stay", x.out(0, 0, 0), 10);
        Check.due("back in all", x.count(13), 6);
        fearless();
    }

    private static void fearless() {
        NineDays x = new NineDays();
        Check.enact(x, 0, "fear 0; pay 0; cost 1;", 0);
        x.members(3, 3, 2);
        x.purse(3, 0);
        x.order(0, 3, 3, 0);
        x.go(25);
        Check.due("one at least goes back", x.out(3, 3, 3), 1);
        x.go(48);
        Check.due("until none is out", x.out(3, 3, 1), 0);
        Check.due("no more than there were", x.out(3, 3, 3), 2);
        NineDays y = new NineDays();
        Check.enact(y, 0, "fear 100; cost 99;", 0);
        y.members(3, 3, 7);
        y.order(0, 3, 3, 0);
        y.go(25);
        Check.due("all go back", y.out(3, 3, 3), 7);
        y.go(1);
        Check.due("and stay, called as they were", y.out(3, 3, 1), 0);
    }

    private static void counts() {
        NineDays x = new NineDays();
        x.road(0, 1, 1);
        x.order(0, 0, 0, 3);
        x.load(0, 1, 0, 1, 0);
        x.leave(0, 1, 0, 0, true);
        Check.enact(x, 0, "pay 1;", 0);
        Check.feed(x, "abc");
        x.go(2);
        int[] want = {2, 1, 1, 1, 1, 0, 0, 0, 1, 0, 0, 1, 3, 0};
        for (int w = 0; w < 14; w++) Check.due("count " + w, x.count(w), want[w]);
        Check.due("count -1", x.count(-1), NineDays.OUTSIDE);
        Check.due("count 14", x.count(14), NineDays.OUTSIDE);
    }
}
