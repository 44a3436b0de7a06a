import java.nio.charset.StandardCharsets;

/** What all tests share: answers that are due, and texts that are fed. */
final class Check {
    private static int wrong = 0;
    private static int asked = 0;

    private Check() {
    }

    static void due(String call, long got, long want) {
        asked++;
        if (got == want) return;
        wrong++;
        System.out.println(call + " answered " + got + ", due is " + want);
    }

    static void due(String call, Object got, Object want) {
        asked++;
        if (got.equals(want)) return;
        wrong++;
        System.out.println(call + ": " + got + ", due is " + want);
    }

    static void end() {
        System.out.println(wrong == 0 ? asked + " answers are as due" : wrong + " answers are not as due");
        if (wrong != 0) System.exit(1);
    }

    static void feed(NineDays x, String text) {
        byte[] bytes = text.getBytes(StandardCharsets.ISO_8859_1);
        for (int from = 0; from < bytes.length; from += 8) {
            int n = Math.min(8, bytes.length - from);
            long packed = 0;
            for (int i = 0; i < n; i++) packed = packed << 8 | bytes[from + i] & 255;
            due("feed of " + text, x.feed(n, packed), from + n);
        }
    }

    /** A text that is good is a rule. */
    static void enact(NineDays x, int hour, String text, int number) {
        feed(x, text);
        due("rule of " + text, x.rule(hour), number);
        due("fault of " + text, x.fault(), NineDays.NONE);
    }

    static void faulty(NineDays x, String text, int fault, int at) {
        feed(x, text);
        due("rule of '" + text + "'", x.rule(0), -10 - fault);
        due("fault of '" + text + "'", x.fault(), at);
        due("text after '" + text + "'", x.count(12), 0);
    }
}
