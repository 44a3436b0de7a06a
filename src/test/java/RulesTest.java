/** Promises 17 to 20. */
public final class RulesTest {
    public static void main(String[] args) {
        feeding();
        atFirst();
        goodTexts();
        faults();
        strikes();
        follow();
        full();
        Check.end();
    }

    private static void feeding() {
        NineDays x = new NineDays();
        Check.due("the low bytes, the highest first", x.feed(4, 0x7a7a7a7a70617920L), 4);
        Check.due("one byte", x.feed(1, 0xff39L), 5);
        Check.due("with a sign", x.feed(8, 0x3b20202020202020L), 13);
        Check.due("rule", x.rule(0), 0);
        Check.due("pay 9", x.force(3, 0), 9);
        for (int i = 1; i <= 19; i++) Check.due("feed", x.feed(8, -1L), 8 * i);
        Check.due("up to 159", x.feed(7, 0L), 159);
        Check.due("two are too many", x.feed(2, 0L), NineDays.FULL);
        Check.due("OUTSIDE ahead of FULL", x.feed(9, 0L), NineDays.OUTSIDE);
        Check.due("none came", x.count(12), 159);
        Check.due("up to 160", x.feed(1, 0L), 160);
        Check.due("full", x.feed(1, 0L), NineDays.FULL);
        Check.due("bytes above 127 cannot stand", x.rule(0), -11);
        Check.due("at the first", x.fault(), 0);
        Check.due("feed 0", x.feed(0, 0L), NineDays.OUTSIDE);
        Check.due("feed -1", x.feed(-1, 0L), NineDays.OUTSIDE);
        Check.due("empty", x.count(12), 0);
    }

    private static void forces(NineDays x, int hour, int... want) {
        for (int w = 0; w < 7; w++) Check.due("force " + w + " in " + hour, x.force(w, hour), want[w]);
    }

    private static void atFirst() {
        NineDays x = new NineDays();
        forces(x, 0, 4, 2, 12, 2, 5, 30, 2);
        forces(x, 240, 4, 2, 12, 2, 5, 30, 2);
    }

    private static void goodTexts() {
        NineDays x = new NineDays();
        Check.enact(x, 1, "need bread owners,council , union,state;need milk state;need coal owners;", 0);
        forces(x, 0, 4, 2, 12, 2, 5, 30, 2);
        forces(x, 1, 15, 8, 1, 2, 5, 30, 2);
        Check.enact(x, 2, "  pay0;cost99 ;fear 100;slow   9  ;  ", 1);
        forces(x, 2, 15, 8, 1, 0, 99, 100, 9);
        Check.enact(x, 3, "pay 099;cost 00;fear 000;slow 1;", 2);
        forces(x, 3, 15, 8, 1, 99, 0, 0, 1);
        Check.enact(x, 4, "pay 1;pay 2;pay 3;pay 4;pay 5;pay 6;pay 7;pay 8;", 3);
        forces(x, 4, 15, 8, 1, 8, 0, 0, 1);
        Check.enact(x, 5, "", 4);
        forces(x, 5, 15, 8, 1, 8, 0, 0, 1);
        Check.enact(x, 5, "   ", 5);
        Check.enact(x, 240, "need coal union;need coal council;", 6);
        forces(x, 240, 15, 8, 2, 8, 0, 0, 1);
        forces(x, 239, 15, 8, 1, 8, 0, 0, 1);
    }

    private static void faults() {
        NineDays x = new NineDays();
        Check.faulty(x, "Pay 1;", 1, 0);
        Check.faulty(x, "payX 1;", 1, 3);
        Check.faulty(x, "pays 1;", 1, 0);
        Check.faulty(x, "payz 1;", 1, 0);
        Check.faulty(x, "apay 1;", 1, 0);
        Check.faulty(x, "bay 1;", 1, 0);
        Check.faulty(x, "pay` 1;", 1, 3);
        Check.faulty(x, "pay{ 1;", 1, 3);
        Check.faulty(x, "pay /1;", 1, 4);
        Check.faulty(x, "pay 1:", 1, 5);
        Check.faulty(x, "  foo", 1, 2);
        Check.faulty(x, ";", 1, 0);
        Check.faulty(x, "pay 1;;", 1, 6);
        Check.faulty(x, "pay 1 pay 2;", 1, 6);
        Check.faulty(x, "pay 1pay 2;", 1, 5);
        Check.faulty(x, "pay 1 2;", 1, 6);
        Check.faulty(x, "pay;", 1, 3);
        Check.faulty(x, "pay", 1, 3);
        Check.faulty(x, "pay  ", 1, 5);
        Check.faulty(x, "pay 1", 1, 5);
        Check.faulty(x, "pay 1 ", 1, 6);
        Check.faulty(x, "pay -1;", 1, 4);
        Check.faulty(x, "pay\t1;", 1, 3);
        Check.faulty(x, "p ay 1;", 1, 0);
        Check.faulty(x, "1;", 1, 0);
        Check.faulty(x, "1234;", 1, 0);
        Check.faulty(x, "need", 1, 4);
        Check.faulty(x, "needbread union;", 1, 0);
        Check.faulty(x, "need bread", 1, 10);
        Check.faulty(x, "need breadunion;", 1, 5);
        Check.faulty(x, "need fish union;", 1, 5);
        Check.faulty(x, "need union;", 1, 5);
        Check.faulty(x, "need bread;", 1, 10);
        Check.faulty(x, "need bread ,union;", 1, 11);
        Check.faulty(x, "need bread milk;", 1, 11);
        Check.faulty(x, "need bread union state;", 1, 17);
        Check.faulty(x, "need bread union,;", 1, 17);
        Check.faulty(x, "need bread union,", 1, 17);
        Check.faulty(x, "need bread union2;", 1, 16);
        Check.faulty(x, "need 7 union;", 1, 5);
        Check.faulty(x, "need bread union,pay 1;", 1, 17);
        Check.faulty(x, "pay 100;", 2, 4);
        Check.faulty(x, "pay 0001;", 2, 4);
        Check.faulty(x, "pay 99999999999999999999x", 2, 4);
        Check.faulty(x, "cost 100;", 2, 5);
        Check.faulty(x, "fear 101;", 2, 5);
        Check.faulty(x, "slow 0;", 2, 5);
        Check.faulty(x, "slow 10", 2, 5);
        Check.faulty(x, "strike 0;", 3, 7);
        Check.faulty(x, "strike 999", 3, 7);
        Check.faulty(x, "strike 1000;", 2, 7);
        Check.faulty(x, "strike;", 1, 6);
        Check.faulty(x, "need milk state , council,state;", 4, 26);
        Check.faulty(x, "need milk owners,council,union,state,owners;", 4, 37);
        String eight = "pay 1;cost 2;fear 3;slow 4;pay 5;cost 6;fear 7;need milk state;";
        Check.faulty(x, eight + " slow 10;", 5, eight.length() + 1);
        Check.faulty(x, eight + "need fish", 5, eight.length());
        Check.faulty(x, eight + "foo", 1, eight.length());
        Check.faulty(x, eight + "7", 1, eight.length());
        Check.faulty(x, eight + ";", 1, eight.length());
        Check.due("no rules came", x.count(8), 0);
        forces(x, 240, 4, 2, 12, 2, 5, 30, 2);
        Check.enact(x, 0, eight, 0);
        forces(x, 0, 4, 8, 12, 5, 6, 7, 4);
        Check.faulty(x, "strike 1;", 3, 7);
        Check.enact(x, 9, "strike 000;", 1);
    }

    private static void strikes() {
        NineDays x = new NineDays();
        Check.enact(x, 0, "pay 10;slow 3;", 0);
        Check.enact(x, 5, "strike 0;cost 7;", 1);
        Check.due("before", x.force(3, 4), 10);
        Check.due("struck", x.force(3, 5), 2);
        Check.due("all of it", x.force(6, 5), 2);
        Check.due("its own clause holds", x.force(4, 5), 7);
        Check.enact(x, 8, "strike 1;", 2);
        Check.due("still struck", x.force(3, 7), 2);
        Check.due("the strike is struck", x.force(3, 8), 10);
        Check.due("with its clause", x.force(4, 8), 5);
        Check.enact(x, 8, "strike 2;", 3);
        Check.due("and that one too", x.force(3, 8), 2);
        Check.enact(x, 3, "strike 0;strike 3;", 4);
        Check.due("from its own hour on", x.force(3, 3), 2);
        Check.due("not before", x.force(3, 2), 10);
        Check.due("two struck: 2 strikes 1, 4 strikes 0", x.force(4, 8), 5);
        Check.due("struck by 4", x.force(3, 8), 2);
    }

    private static void follow() {
        NineDays x = new NineDays();
        Check.enact(x, 20, "pay 1;", 0);
        Check.enact(x, 10, "pay 3;cost 4;", 1);
        Check.enact(x, 20, "cost 9;", 2);
        Check.due("by hours", x.force(3, 20), 1);
        Check.due("the earlier hour", x.force(3, 10), 3);
        Check.due("one cost", x.force(4, 19), 4);
        Check.due("the later one", x.force(4, 20), 9);
        Check.enact(x, 10, "pay 6;", 3);
        Check.due("of one hour by numbers", x.force(3, 10), 6);
        Check.due("but hours first", x.force(3, 20), 1);
        Check.enact(x, 0, "strike 0;", 4);
        Check.due("a strike from before it came", x.force(3, 20), 6);
        x.go(50);
        Check.enact(x, 0, "slow 5;", 5);
        Check.due("an hour that is over", x.force(6, 0), 5);
    }

    private static void full() {
        NineDays x = new NineDays();
        Check.faulty(x, "pay 1;foo", 1, 6);
        for (int r = 0; r < 7; r++) Check.enact(x, r, "pay 1;", r);
        Check.faulty(x, "  x", 1, 2);
        Check.due("outside leaves the fault", x.rule(241), NineDays.OUTSIDE);
        Check.due("the fault", x.fault(), 2);
        Check.enact(x, 7, "pay 1;", 7);
        Check.feed(x, "foo");
        Check.due("a ninth rule", x.rule(0), NineDays.FULL);
        Check.due("OUTSIDE ahead of FULL", x.rule(-1), NineDays.OUTSIDE);
        Check.due("the text stays", x.count(12), 3);
        Check.due("the fault is as it was", x.fault(), -1);
        Check.due("rules", x.count(8), 8);
    }
}
