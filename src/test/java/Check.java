import java.nio.charset.StandardCharsets;
import java.util.ArrayList;
import java.util.List;

/** What all tests share: answers that are due, texts that are fed, a state that is read out. */
final class Check {
    private static int wrong = 0;
    private static int asked = 0;

    private Check() {
    }

    static void due(String call, long got, long want) {
        asked++;
        if (got == want) return;
        wrong++;
        System.out.println(call + " answered " + got + ", due is " + want);
    }

    static void due(String call, Object got, Object want) {
        asked++;
        if (got.equals(want)) return;
        wrong++;
        System.out.println(call + ": " + got + ", due is " + want);
    }

    static void end() {
        System.out.println(wrong == 0 ? asked + " answers are as due" : wrong + " answers are not as due");
        if (wrong != 0) System.exit(1);
    }

    static void feed(NineDays x, String text) {
        byte[] bytes = text.getBytes(StandardCharsets.ISO_8859_1);
        for (int from = 0; from < bytes.length; from += 8) {
            int n = Math.min(8, bytes.length - from);
            long packed = 0;
            for (int i = 0; i < n; i++) packed = packed << 8 | bytes[from + i] & 255;
            due("feed of " + text, x.feed(n, packed), from + n);
        }
    }

    /** A text that is good is a rule. */
    static void enact(NineDays x, int hour, String text, int number) {
        feed(x, text);
        due("rule of " + text, x.rule(hour), number);
        due("fault of " + text, x.fault(), NineDays.NONE);
    }

    static void faulty(NineDays x, String text, int fault, int at) {
        feed(x, text);
        due("rule of '" + text + "'", x.rule(0), -10 - fault);
        due("fault of '" + text + "'", x.fault(), at);
        due("text after '" + text + "'", x.count(12), 0);
    }

    /** Everything that can be asked without a change, and needs and the table by setting them to what they are. */
    static List<Integer> state(NineDays x) {
        List<Integer> all = new ArrayList<>();
        for (int w = 0; w < 14; w++) all.add(x.count(w));
        for (int t = 0; t < 8; t++) {
            for (int w = 0; w < 9; w++) all.add(x.town(t, w));
            for (int b = 0; b < 8; b++) all.add(x.away(t, b));
            for (int g = 0; g < 3; g++) {
                int was = x.need(t, g, 0);
                x.need(t, g, was);
                all.add(was);
            }
            for (int u = 0; u < 6; u++) {
                for (int w = 0; w < 4; w++) all.add(x.out(u, t, w));
            }
        }
        for (int u = 0; u < 6; u++) all.add(x.last(u));
        for (int s = 0; s < 64; s++) all.add(x.lending(s));
        ordersAndRules(x, all);
        loadsAndLeaves(x, all);
        return all;
    }

    private static void ordersAndRules(NineDays x, List<Integer> all) {
        for (int o = 0; o < x.count(2); o++) {
            all.add(x.late(o));
            for (int t = 0; t < 8; t++) all.add(x.reach(o, t));
        }
        for (int hour = 0; hour <= 240; hour += 20) {
            for (int place = 0; place < 48; place++) {
                all.add(x.called(place / 8, place % 8, hour));
                all.add(x.holds(place / 8, place % 8, hour, 0));
                all.add(x.holds(place / 8, place % 8, hour, 1));
            }
            for (int w = 0; w < 7; w++) all.add(x.force(w, hour));
        }
        all.add(x.fault());
    }

    private static void loadsAndLeaves(NineDays x, List<Integer> all) {
        for (int l = 0; l < x.count(3); l++) {
            for (int w = 0; w < 9; w++) all.add(x.told(l, w));
        }
        for (int i = 0; i < 41; i++) all.add(x.clash(i));
        all.add(x.words());
        for (int hour = 0; hour <= 240; hour += 24) {
            for (int s = 0; s < 8; s++) {
                for (int b = 0; b < 8; b++) all.add(x.binds(1 << s, hour, b));
            }
        }
        for (int row = 0; row < 9; row++) all.add(x.judge(1, 999, row));
        all.add(x.beside(false));
        all.add(x.beside(true));
    }
}
