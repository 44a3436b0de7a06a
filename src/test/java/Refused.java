import java.util.ArrayList;
import java.util.HashMap;
import java.util.List;
import java.util.Map;

/**
 * What is refused changes nothing: every question is asked of two lands that were laid alike, of which one refused a call.
 * An object is promised for 512 calls, so the questions are asked in rows, each of a land that is laid anew.
 */
final class Refused {
    interface Setup {
        void lay(NineDays x);
    }

    interface Ask {
        int of(NineDays x);
    }

    private static final int ROW = 300;
    private static final List<List<Ask>> QUESTIONS = questions();
    private static final Map<Setup, List<Integer>> KNOWN = new HashMap<>();

    private Refused() {
    }

    /** The call is refused with this answer, and nothing has changed. */
    static void due(String name, Setup setup, Ask call, int want) {
        NineDays x = new NineDays();
        setup.lay(x);
        Check.due(name, call.of(x), want);
        changesNothing(name, setup, call);
    }

    static void changesNothing(String name, Setup setup, Ask call) {
        List<Integer> before = KNOWN.computeIfAbsent(setup, s -> answers(s, x -> 0));
        Check.due(name + " changes nothing", answers(setup, call).equals(before), true);
    }

    private static List<Integer> answers(Setup setup, Ask call) {
        List<Integer> all = new ArrayList<>();
        for (List<Ask> row : QUESTIONS) {
            NineDays x = new NineDays();
            setup.lay(x);
            call.of(x);
            for (Ask question : row) all.add(question.of(x));
        }
        return all;
    }

    private static List<List<Ask>> questions() {
        List<Ask> asked = new ArrayList<>();
        towns(asked);
        orders(asked);
        loadsAndLeaves(asked);
        List<List<Ask>> rows = new ArrayList<>();
        for (int from = 0; from < asked.size(); from += ROW) {
            rows.add(asked.subList(from, Math.min(asked.size(), from + ROW)));
        }
        rows.add(whatIsTold());
        rows.add(whatTheTextBecomes());
        rows.add(whatIsNext());
        rows.add(whatHoursBring(1));
        rows.add(whatHoursBring(60));
        return rows;
    }

    private static void towns(List<Ask> all) {
        for (int w = 0; w < 14; w++) {
            int what = w;
            all.add(x -> x.count(what));
        }
        for (int t = 0; t < 8; t++) {
            int town = t;
            for (int w = 0; w < 9; w++) {
                int what = w;
                all.add(x -> x.town(town, what));
            }
            for (int b = 0; b < 8; b++) {
                int other = b;
                all.add(x -> x.away(town, other));
            }
            for (int k = 0; k < 24; k++) {
                int union = k / 4;
                int what = k % 4;
                all.add(x -> x.out(union, town, what));
            }
        }
        for (int u = 0; u < 6; u++) {
            int union = u;
            all.add(x -> x.last(union));
        }
        all.add(x -> x.lending(63));
    }

    private static void orders(List<Ask> all) {
        for (int o = 0; o <= 40; o++) {
            int order = o;
            all.add(x -> x.late(order));
            for (int t = 0; t < 8; t++) {
                int town = t;
                all.add(x -> x.reach(order, town));
            }
        }
        for (int h = 0; h <= 240; h += 30) {
            int hour = h;
            for (int p = 0; p < 48; p++) {
                int union = p / 8;
                int town = p % 8;
                all.add(x -> x.called(union, town, hour));
                all.add(x -> x.holds(union, town, hour, 0));
                all.add(x -> x.holds(union, town, hour, 1));
            }
            for (int w = 0; w < 7; w++) {
                int what = w;
                all.add(x -> x.force(what, hour));
            }
        }
        all.add(NineDays::fault);
    }

    private static void loadsAndLeaves(List<Ask> all) {
        for (int l = 0; l <= 40; l++) {
            int load = l;
            for (int w = 0; w < 9; w++) {
                int what = w;
                all.add(x -> x.told(load, what));
            }
            all.add(x -> x.clash(load));
        }
        all.add(NineDays::words);
        for (int h = 0; h <= 240; h += 40) {
            int hour = h;
            for (int k = 0; k < 64; k++) {
                int signed = k / 8;
                int b = k % 8;
                all.add(x -> x.binds(1 << signed, hour, b));
            }
        }
        for (int r = 0; r < 9; r++) {
            int row = r;
            all.add(x -> x.judge(1, 999, row));
        }
        all.add(x -> x.game(3, 40, 0));
        all.add(x -> x.game(3, 40, 1));
        all.add(x -> x.beside(false));
        all.add(x -> x.beside(true));
    }

    /** Needs, funds and the table are told only when they become something else. */
    private static List<Ask> whatIsTold() {
        List<Ask> all = new ArrayList<>();
        for (int k = 0; k < 24; k++) {
            int town = k / 3;
            int good = k % 3;
            all.add(x -> x.need(town, good, 0));
            all.add(x -> x.store(town, good, 0));
        }
        for (int u = 0; u < 6; u++) {
            int union = u;
            all.add(x -> x.fund(union, 0));
        }
        for (int k = 0; k < 9; k++) {
            int a = k / 3;
            int b = k % 3;
            all.add(x -> x.table(a, b, 0));
        }
        return all;
    }

    private static List<Ask> whatTheTextBecomes() {
        List<Ask> all = new ArrayList<>();
        all.add(x -> x.feed(1, ';'));
        all.add(x -> x.rule(0));
        all.add(NineDays::fault);
        for (int w = 0; w < 7; w++) {
            int what = w;
            all.add(x -> x.force(what, 240));
        }
        return all;
    }

    /** The numbers that come next. */
    private static List<Ask> whatIsNext() {
        List<Ask> all = new ArrayList<>();
        all.add(x -> x.road(6, 7, 30));
        all.add(x -> x.order(3, 5, 7, 240));
        all.add(x -> x.load(0, 1, 6, 7, 240));
        all.add(x -> x.leave(6, 7, 240, 240, false));
        all.add(x -> x.feed(2, 0x2020));
        return all;
    }

    private static List<Ask> whatHoursBring(int hours) {
        List<Ask> all = new ArrayList<>();
        all.add(x -> x.go(hours));
        for (int w = 0; w < 14; w++) {
            int what = w;
            all.add(x -> x.count(what));
        }
        for (int k = 0; k < 48; k++) {
            int union = k / 8;
            int town = k % 8;
            all.add(x -> x.out(union, town, 1));
            all.add(x -> x.out(union, town, 2));
        }
        for (int k = 0; k < 72; k++) {
            int town = k / 9;
            int what = k % 9;
            all.add(x -> x.town(town, what));
        }
        all.add(x -> x.beside(false));
        all.add(x -> x.beside(true));
        return all;
    }
}
