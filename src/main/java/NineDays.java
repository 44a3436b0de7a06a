import java.util.Arrays;

/** A land in which millions stop, stepped by hours; the promises stand in the document. */
public final class NineDays {
    public static final int NONE = -1, UNKNOWN = -1001, OUTSIDE = -1002, NOT = -1003, FULL = -1004;

    private static final int TOWNS = 8;
    private static final int GOODS = 3;
    private static final int UNIONS = 6;
    /** A place is a union in a town, a shelf is a good in a town. */
    private static final int PLACES = UNIONS * TOWNS;
    private static final int SHELVES = TOWNS * GOODS;
    private static final int END_HOUR = 240;
    private static final int DAY = 24;

    private static final int MOST_ROADS = 14;
    private static final int MOST_ORDERS = 40;
    private static final int MOST_RULES = 8;
    private static final int MOST_CLAUSES = 8;
    private static final int MOST_BYTES = 160;
    private static final int MOST_LOADS = 40;
    private static final int MOST_LEAVES = 24;
    private static final int MOST_STORE = 9999;
    private static final int MOST_LASTING = 999;

    private static final int CALL = 0;
    private static final int BAN = 2;

    private static final int COMMITTEES = 4;
    private static final int SPEAKERS = 8;

    /** What rules: 0 to 2 stamps of goods, then these; a strike is no force, but is a clause. */
    private static final int PAY = 3;
    private static final int COST = 4;
    private static final int FEAR = 5;
    private static final int SLOW = 6;
    private static final int STRIKE = 7;
    private static final int FORCES = 7;
    private static final int[] AT_FIRST = {4, 2, 12, 2, 5, 30, 2};
    private static final int[] LEAST = {0, 0, 0, 0, 0, 0, 1, 0};
    private static final int[] MOST = {15, 15, 15, 99, 99, 100, 9, 999};

    private static final int CANNOT_STAND = 1;
    private static final int WRONG_NUMBER = 2;
    private static final int NO_RULE = 3;
    private static final int STAMP_AGAIN = 4;
    private static final int NINTH_CLAUSE = 5;

    private static final int WAITING = 0;
    private static final int ON_THE_WAY = 1;
    private static final int THERE = 2;
    private static final int STOPPED = 3;

    private static final int MOVES = 3;
    private static final int MOST_DAYS = 6;
    private static final int MOST_END = 999;
    private static final int MOST_ADDED = 99;

    private final Land land;
    private final Hand hand;
    private final Orders orders;
    private final Rules rules;
    private final Reader reader;
    private final Loads loads;
    private final Days days;
    private final Days again;
    private final Leaves leaves;
    private final Game play;
    private final int[] forces;
    private int now;

    public NineDays() {
        land = new Land();
        hand = new Hand();
        orders = new Orders(land);
        rules = new Rules();
        reader = new Reader();
        loads = new Loads();
        days = new Days(land, hand, orders, rules, loads);
        again = new Days(land, hand, orders, rules, loads);
        leaves = new Leaves();
        play = new Game();
        forces = new int[FORCES];
        now = 0;
    }

    // ---- towns, unions

    public int road(int a, int b, int hours) {
        if (noTown(a) || noTown(b)) return UNKNOWN;
        if (a == b || beyond(hours, 1, 30)) return OUTSIDE;
        if (land.roads >= MOST_ROADS) return FULL;
        land.join(a, b, hours);
        return land.roads;
    }

    public int away(int a, int b) {
        if (noTown(a) || noTown(b)) return UNKNOWN;
        return land.way(a, b);
    }

    public int store(int town, int good, int v) {
        if (noTown(town)) return UNKNOWN;
        if (noGood(good) || beyond(v, 0, MOST_STORE)) return OUTSIDE;
        int shelf = town * GOODS + good;
        int was = days.stores[shelf];
        hand.stores[shelf] = v;
        days.stores[shelf] = v;
        return was;
    }

    public int need(int town, int good, int v) {
        if (noTown(town)) return UNKNOWN;
        if (noGood(good) || beyond(v, 0, 99)) return OUTSIDE;
        int shelf = town * GOODS + good;
        int was = hand.needs[shelf];
        hand.needs[shelf] = v;
        return was;
    }

    public int members(int union, int town, int n) {
        if (noUnion(union) || noTown(town)) return UNKNOWN;
        if (beyond(n, 0, 999)) return OUTSIDE;
        int place = union * TOWNS + town;
        int was = hand.members[place];
        hand.members[place] = n;
        days.outs[place] = Math.min(days.outs[place], n);
        return was;
    }

    public int purse(int union, int v) {
        if (noUnion(union)) return UNKNOWN;
        if (beyond(v, 0, 999)) return OUTSIDE;
        hand.purses[union] = v;
        for (int t = 0; t < TOWNS; t++) days.purses[union * TOWNS + t] = v;
        return 1;
    }

    public int fund(int union, int v) {
        if (noUnion(union)) return UNKNOWN;
        if (beyond(v, 0, 99999)) return OUTSIDE;
        int was = days.funds[union];
        hand.funds[union] = v;
        days.funds[union] = v;
        return was;
    }

    public int out(int union, int town, int what) {
        if (noUnion(union) || noTown(town)) return UNKNOWN;
        int place = union * TOWNS + town;
        switch (what) {
            case 0: return hand.members[place];
            case 1: return days.outs[place];
            case 2: return days.purses[place];
            case 3: return days.back[place];
            default: return OUTSIDE;
        }
    }

    public int town(int t, int what) {
        if (noTown(t)) return UNKNOWN;
        if (beyond(what, 0, 3 * GOODS - 1)) return OUTSIDE;
        int shelf = t * GOODS + what % GOODS;
        if (what < GOODS) return days.stores[shelf];
        return what < 2 * GOODS ? days.hunger[shelf] : days.lacked[shelf];
    }

    public int count(int what) {
        switch (what) {
            case 0: return now;
            case 1: return land.roads;
            case 2: return orders.count;
            case 3: return loads.count;
            case 4: return days.loadsThatAre(WAITING);
            case 5: return days.loadsThatAre(ON_THE_WAY);
            case 6: return days.loadsThatAre(THERE);
            case 7: return days.loadsThatAre(STOPPED);
            case 8: return rules.count;
            case 9: return sum(days.outs);
            case 10: return sum(days.hunger);
            case 11: return leaves.count;
            case 12: return reader.length;
            case 13: return sum(days.back);
            default: return OUTSIDE;
        }
    }

    // ---- orders

    public int order(int kind, int union, int town, int hour) {
        if (noUnion(union) || noTown(town)) return UNKNOWN;
        if (beyond(kind, 0, 3) || beyond(hour, now, END_HOUR)) return OUTSIDE;
        if (orders.count >= MOST_ORDERS) return FULL;
        return orders.give(kind, union, town, hour);
    }

    public int reach(int o, int town) {
        if (noNumber(o, orders.count) || noTown(town)) return UNKNOWN;
        return orders.comes(o, town, orders.hours[o]);
    }

    public int late(int o) {
        if (noNumber(o, orders.count)) return UNKNOWN;
        return orders.lateTowns(o);
    }

    public int called(int union, int town, int hour) {
        if (noUnion(union) || noTown(town)) return UNKNOWN;
        if (beyond(hour, 0, END_HOUR)) return OUTSIDE;
        orders.listen(hour, false);
        return orders.calls(union * TOWNS + town) ? 1 : 0;
    }

    public int holds(int union, int town, int hour, int pair) {
        if (noUnion(union) || noTown(town)) return UNKNOWN;
        if (beyond(hour, 0, END_HOUR) || beyond(pair, 0, 1)) return OUTSIDE;
        orders.listen(hour, false);
        return orders.standing[pair * PLACES + union * TOWNS + town];
    }

    // ---- rules

    public int feed(int n, long bytes) {
        if (beyond(n, 1, 8)) return OUTSIDE;
        if (reader.length + n > MOST_BYTES) return FULL;
        reader.append(n, bytes);
        return reader.length;
    }

    public int rule(int hour) {
        if (beyond(hour, 0, END_HOUR)) return OUTSIDE;
        if (rules.count >= MOST_RULES) return FULL;
        reader.read(rules.count);
        return reader.fault == 0 ? rules.enact(hour, reader) : -10 - reader.fault;
    }

    public int fault() {
        return reader.faultAt;
    }

    public int force(int what, int hour) {
        if (beyond(what, 0, FORCES - 1) || beyond(hour, 0, END_HOUR)) return OUTSIDE;
        rules.holdIn(hour, forces);
        return forces[what];
    }

    // ---- loads, hours

    public int load(int good, int n, int from, int to, int hour) {
        if (noTown(from) || noTown(to)) return UNKNOWN;
        if (noGood(good) || beyond(n, 1, 999) || from == to || beyond(hour, now, END_HOUR)) return OUTSIDE;
        if (loads.count >= MOST_LOADS) return FULL;
        return loads.add(good, n, from, to, hour);
    }

    public int stamp(int l, int committee) {
        if (noNumber(l, loads.count)) return UNKNOWN;
        if (beyond(committee, 0, COMMITTEES - 1)) return OUTSIDE;
        int mark = 1 << committee;
        if ((loads.stamps[l] & mark) != 0 || days.states[l] != WAITING) return NOT;
        loads.stamps[l] |= mark;
        return loads.stamps[l];
    }

    public int told(int l, int what) {
        if (noNumber(l, loads.count)) return UNKNOWN;
        switch (what) {
            case 0: return loads.goods[l];
            case 1: return loads.amounts[l];
            case 2: return loads.froms[l];
            case 3: return loads.tos[l];
            case 4: return loads.hours[l];
            case 5: return loads.stamps[l];
            case 6: return days.states[l];
            case 7: return days.left[l];
            case 8: return days.arrival[l];
            default: return OUTSIDE;
        }
    }

    public int clash(int i) {
        rules.holdIn(now, forces);
        int found = 0;
        for (int l = 0; l < loads.count; l++) {
            if (days.states[l] != WAITING || !loads.clashes(l, forces)) continue;
            if (found == i) return l;
            found++;
        }
        return NONE;
    }

    // What every load lacks must be held to, and nothing else need be: so the fewest are just these.
    public int words() {
        rules.holdIn(now, forces);
        int set = 0;
        for (int l = 0; l < loads.count; l++) {
            if (days.states[l] == WAITING || days.states[l] == STOPPED) set |= loads.missing(l, forces);
        }
        return set;
    }

    public int go(int n) {
        if (beyond(n, 0, 100)) return OUTSIDE;
        if (now + n > END_HOUR) return NOT;
        int came = days.run(now, n, false);
        now += n;
        return came;
    }

    // ---- leaves, funds, the game, beside

    public int leave(int a, int b, int from, int to, boolean sure) {
        if (beyond(a, 0, SPEAKERS - 1) || beyond(b, 0, SPEAKERS - 1) || a == b) return OUTSIDE;
        if (beyond(from, 0, END_HOUR) || beyond(to, from, END_HOUR)) return OUTSIDE;
        if (leaves.count >= MOST_LEAVES) return FULL;
        return leaves.give(a, b, from, to, sure);
    }

    public int binds(int set, int hour, int b) {
        if (beyond(set, 0, (1 << SPEAKERS) - 1)) return OUTSIDE;
        if (beyond(hour, 0, END_HOUR) || beyond(b, 0, SPEAKERS - 1)) return OUTSIDE;
        if (has(leaves.bound(set, hour, true), b)) return 2;
        return has(leaves.bound(set, hour, false), b) ? 1 : 0;
    }

    public int last(int union) {
        if (noUnion(union)) return UNKNOWN;
        return daysPaid(1 << union);
    }

    public int lending(int set) {
        if (beyond(set, 0, (1 << UNIONS) - 1)) return UNKNOWN;
        return daysPaid(set);
    }

    public int table(int a, int b, int v) {
        if (beyond(a, 0, MOVES - 1) || beyond(b, 0, MOVES - 1)) return OUTSIDE;
        if (beyond(v, -MOST_ADDED, MOST_ADDED)) return OUTSIDE;
        int was = play.added[a * MOVES + b];
        play.added[a * MOVES + b] = v;
        return was;
    }

    public int game(int n, int e, int what) {
        if (beyond(n, 1, MOST_DAYS) || beyond(e, 1, MOST_END) || beyond(what, 0, 1)) return OUTSIDE;
        play.solve(n, e);
        return what == 0 ? play.worth : play.best;
    }

    public int judge(int n, int e, int row) {
        if (beyond(n, 1, MOST_DAYS) || beyond(e, 1, MOST_END)) return OUTSIDE;
        if (beyond(row, 0, Game.rows(n) - 1)) return OUTSIDE;
        return play.score(n, e, row);
    }

    public int beside(boolean at) {
        again.beginAnew();
        return again.run(0, now, at);
    }

    private int daysPaid(int set) {
        int heads = 0;
        int funds = 0;
        for (int u = 0; u < UNIONS; u++) {
            if (!has(set, u)) continue;
            funds += days.funds[u];
            for (int t = 0; t < TOWNS; t++) heads += hand.members[u * TOWNS + t];
        }
        rules.holdIn(now, forces);
        int daily = heads * forces[PAY];
        return daily <= 0 ? MOST_LASTING : Math.min(MOST_LASTING, funds / daily);
    }

    private static boolean beyond(int v, int least, int most) {
        return v < least || v > most;
    }

    private static boolean noNumber(int v, int count) {
        return v < 0 || v >= count;
    }

    private static boolean noTown(int t) {
        return noNumber(t, TOWNS);
    }

    private static boolean noUnion(int u) {
        return noNumber(u, UNIONS);
    }

    private static boolean noGood(int g) {
        return noNumber(g, GOODS);
    }

    private static boolean has(int set, int k) {
        return (set >> k & 1) == 1;
    }

    private static int sum(int[] row) {
        int all = 0;
        for (int v : row) all += v;
        return all;
    }

    /** Towns joined by roads. */
    private static final class Land {
        final int[] ways = new int[TOWNS * TOWNS];
        int roads = 0;

        Land() {
            Arrays.fill(ways, NONE);
            for (int t = 0; t < TOWNS; t++) ways[t * TOWNS + t] = 0;
        }

        int way(int a, int b) {
            return ways[a * TOWNS + b];
        }

        // A new road can shorten a way only by being gone once, one way or the other.
        void join(int a, int b, int hours) {
            roads++;
            for (int i = 0; i < TOWNS; i++) {
                for (int j = 0; j < TOWNS; j++) {
                    shorten(i, j, way(i, a), hours, way(b, j));
                    shorten(i, j, way(i, b), hours, way(a, j));
                }
            }
        }

        private void shorten(int i, int j, int before, int hours, int behind) {
            if (before == NONE || behind == NONE) return;
            int old = way(i, j);
            int found = before + hours + behind;
            if (old == NONE || found < old) ways[i * TOWNS + j] = found;
        }
    }

    /** What was set by hand last, whatever hours have made of it since. */
    private static final class Hand {
        final int[] stores = new int[SHELVES];
        final int[] needs = new int[SHELVES];
        final int[] members = new int[PLACES];
        final int[] purses = new int[UNIONS];
        final int[] funds = new int[UNIONS];

        Hand() {
            Arrays.fill(purses, 20);
        }
    }

    /** Calls, recalls, bans and lifts, and when each town hears of them. */
    private static final class Orders {
        final Land land;
        final int[] kinds = new int[MOST_ORDERS];
        final int[] unions = new int[MOST_ORDERS];
        final int[] towns = new int[MOST_ORDERS];
        final int[] hours = new int[MOST_ORDERS];
        /** By pair and place: the order that holds, and the hour in which it came. */
        final int[] standing = new int[2 * PLACES];
        final int[] heard = new int[2 * PLACES];
        int count = 0;

        Orders(Land land) {
            this.land = land;
        }

        int give(int kind, int union, int town, int hour) {
            kinds[count] = kind;
            unions[count] = union;
            towns[count] = town;
            hours[count] = hour;
            return count++;
        }

        int comes(int o, int town, int hour) {
            int way = land.way(towns[o], town);
            return way == NONE ? NONE : hour + way;
        }

        int lateTowns(int o) {
            int set = 0;
            for (int t = 0; t < TOWNS; t++) {
                int comes = comes(o, t, hours[o]);
                if (comes != NONE && overtaken(o, comes)) set |= 1 << t;
            }
            return set;
        }

        private boolean overtaken(int o, int comes) {
            for (int p = 0; p < count; p++) {
                boolean other = unions[p] == unions[o] && kinds[p] == (kinds[o] ^ 1);
                if (other && hours[p] > hours[o] && hours[p] <= comes) return true;
            }
            return false;
        }

        // All places at once, because stepping an hour asks for every one of them.
        void listen(int hour, boolean atOnce) {
            Arrays.fill(standing, NONE);
            Arrays.fill(heard, NONE);
            int first = firstCallHour();
            for (int o = 0; o < count; o++) {
                int given = atOnce && kinds[o] == CALL ? first : hours[o];
                if (given <= hour) spread(o, given, hour);
            }
        }

        // Orders come by rising numbers, so that of one hour the greater number stays.
        private void spread(int o, int given, int hour) {
            int row = kinds[o] / 2 * PLACES + unions[o] * TOWNS;
            for (int t = 0; t < TOWNS; t++) {
                int comes = comes(o, t, given);
                if (comes == NONE || comes > hour || comes < heard[row + t]) continue;
                heard[row + t] = comes;
                standing[row + t] = o;
            }
        }

        private int firstCallHour() {
            int first = END_HOUR;
            for (int o = 0; o < count; o++) {
                if (kinds[o] == CALL) first = Math.min(first, hours[o]);
            }
            return first;
        }

        boolean calls(int place) {
            int call = standing[place];
            int ban = standing[PLACES + place];
            return call != NONE && kinds[call] == CALL && (ban == NONE || kinds[ban] != BAN);
        }
    }

    /** The text that is fed, read into clauses or to its first fault. */
    private static final class Reader {
        final int[] bytes = new int[MOST_BYTES];
        final int[] kinds = new int[MOST_CLAUSES];
        final int[] values = new int[MOST_CLAUSES];
        int length = 0;
        int clauses = 0;
        int fault = 0;
        int faultAt = NONE;
        private int at = 0;
        private int wordAt = 0;

        void append(int n, long more) {
            for (int i = n - 1; i >= 0; i--) bytes[length++] = (int) (more >> 8 * i & 255);
        }

        void read(int rules) {
            at = 0;
            clauses = 0;
            fault = 0;
            faultAt = NONE;
            for (int c = 0; c <= MOST_CLAUSES && more(); c++) readClause(rules);
            length = 0;
        }

        private boolean more() {
            skipBlanks();
            return fault == 0 && at < length;
        }

        private void readClause(int rules) {
            takeWord();
            if (spells("need")) readNeed();
            else if (spells("pay")) readNumber(PAY, rules);
            else if (spells("cost")) readNumber(COST, rules);
            else if (spells("fear")) readNumber(FEAR, rules);
            else if (spells("slow")) readNumber(SLOW, rules);
            else if (spells("strike")) readNumber(STRIKE, rules);
            else blame(CANNOT_STAND, wordAt);
        }

        private void readNeed() {
            refuseNinth();
            takeWord();
            int good = good();
            if (good == NONE) blame(CANNOT_STAND, wordAt);
            int set = 0;
            boolean goesOn = true;
            // A fifth stamp is one again: the fault ends the row there at the latest.
            for (int i = 0; i <= COMMITTEES && goesOn && fault == 0; i++) {
                set |= readStamp(set);
                skipBlanks();
                goesOn = takes(',');
            }
            close(good, set);
        }

        private int readStamp(int set) {
            takeWord();
            int committee = committee();
            if (committee == NONE) {
                blame(CANNOT_STAND, wordAt);
                return 0;
            }
            if (has(set, committee)) blame(STAMP_AGAIN, wordAt);
            return 1 << committee;
        }

        private void readNumber(int kind, int rules) {
            refuseNinth();
            skipBlanks();
            int start = at;
            int value = 0;
            while (at < length && bytes[at] >= '0' && bytes[at] <= '9') {
                if (at - start < 3) value = value * 10 + bytes[at] - '0';
                at++;
            }
            int figures = at - start;
            if (figures == 0) blame(CANNOT_STAND, start);
            if (figures > 3 || beyond(value, LEAST[kind], MOST[kind])) blame(WRONG_NUMBER, start);
            if (kind == STRIKE && value >= rules) blame(NO_RULE, start);
            close(kind, value);
        }

        private void refuseNinth() {
            if (clauses >= MOST_CLAUSES) blame(NINTH_CLAUSE, wordAt);
        }

        private void close(int kind, int value) {
            skipBlanks();
            if (!takes(';')) blame(CANNOT_STAND, at);
            if (fault != 0 || clauses >= MOST_CLAUSES) return;
            kinds[clauses] = kind;
            values[clauses] = value;
            clauses++;
        }

        // Reading goes forward and asks for the lesser fault first, so the first one blamed is the one that is due.
        private void blame(int number, int where) {
            if (fault != 0) return;
            fault = number;
            faultAt = where;
        }

        private void skipBlanks() {
            while (at < length && bytes[at] == ' ') at++;
        }

        private boolean takes(char sign) {
            if (at >= length || bytes[at] != sign) return false;
            at++;
            return true;
        }

        private void takeWord() {
            skipBlanks();
            wordAt = at;
            while (at < length && bytes[at] >= 'a' && bytes[at] <= 'z') at++;
        }

        private boolean spells(String word) {
            if (at - wordAt != word.length()) return false;
            for (int i = 0; i < word.length(); i++) {
                if (bytes[wordAt + i] != word.charAt(i)) return false;
            }
            return true;
        }

        private int good() {
            if (spells("bread")) return 0;
            if (spells("milk")) return 1;
            return spells("coal") ? 2 : NONE;
        }

        private int committee() {
            if (spells("owners")) return 0;
            if (spells("council")) return 1;
            if (spells("union")) return 2;
            return spells("state") ? 3 : NONE;
        }
    }

    /** Rules that were enacted, and what holds by them. */
    private static final class Rules {
        final int[] hours = new int[MOST_RULES];
        final int[] sizes = new int[MOST_RULES];
        /** Numbers of rules as they follow one another: by hours, then numbers. */
        final int[] byHours = new int[MOST_RULES];
        final int[] kinds = new int[MOST_RULES * MOST_CLAUSES];
        final int[] values = new int[MOST_RULES * MOST_CLAUSES];
        int count = 0;

        int enact(int hour, Reader reader) {
            hours[count] = hour;
            sizes[count] = reader.clauses;
            System.arraycopy(reader.kinds, 0, kinds, count * MOST_CLAUSES, reader.clauses);
            System.arraycopy(reader.values, 0, values, count * MOST_CLAUSES, reader.clauses);
            int slot = count;
            while (slot > 0 && hours[byHours[slot - 1]] > hour) {
                byHours[slot] = byHours[slot - 1];
                slot--;
            }
            byHours[slot] = count;
            return count++;
        }

        void holdIn(int hour, int[] forces) {
            System.arraycopy(AT_FIRST, 0, forces, 0, FORCES);
            int counting = countingIn(hour);
            for (int i = 0; i < count; i++) {
                if (has(counting, byHours[i])) apply(byHours[i], forces);
            }
        }

        // A rule strikes only lesser numbers: from the last down, all that strike a rule are known before it.
        private int countingIn(int hour) {
            int counting = 0;
            int struck = 0;
            for (int r = count - 1; r >= 0; r--) {
                if (hours[r] > hour || has(struck, r)) continue;
                counting |= 1 << r;
                struck |= struckBy(r);
            }
            return counting;
        }

        private int struckBy(int r) {
            int set = 0;
            for (int c = r * MOST_CLAUSES; c < r * MOST_CLAUSES + sizes[r]; c++) {
                if (kinds[c] == STRIKE) set |= 1 << values[c];
            }
            return set;
        }

        private void apply(int r, int[] forces) {
            for (int c = r * MOST_CLAUSES; c < r * MOST_CLAUSES + sizes[r]; c++) {
                if (kinds[c] < FORCES) forces[kinds[c]] = values[c];
            }
        }
    }

    /** Loads as they were told, with their stamps; how far they are, days know. */
    private static final class Loads {
        final int[] goods = new int[MOST_LOADS];
        final int[] amounts = new int[MOST_LOADS];
        final int[] froms = new int[MOST_LOADS];
        final int[] tos = new int[MOST_LOADS];
        final int[] hours = new int[MOST_LOADS];
        final int[] stamps = new int[MOST_LOADS];
        int count = 0;

        int add(int good, int n, int from, int to, int hour) {
            goods[count] = good;
            amounts[count] = n;
            froms[count] = from;
            tos[count] = to;
            hours[count] = hour;
            return count++;
        }

        int missing(int l, int[] forces) {
            return forces[goods[l]] & ~stamps[l];
        }

        boolean clashes(int l, int[] forces) {
            return missing(l, forces) != 0 && missing(l, forces) != forces[goods[l]];
        }
    }

    /** What hours change, and the steps of an hour. */
    private static final class Days {
        final Land land;
        final Hand hand;
        final Orders orders;
        final Rules rules;
        final Loads loads;
        final int[] stores = new int[SHELVES];
        final int[] hunger = new int[SHELVES];
        final int[] lacked = new int[SHELVES];
        final int[] outs = new int[PLACES];
        final int[] purses = new int[PLACES];
        final int[] back = new int[PLACES];
        final int[] funds = new int[UNIONS];
        final int[] states = new int[MOST_LOADS];
        final int[] left = new int[MOST_LOADS];
        final int[] arrival = new int[MOST_LOADS];
        private final boolean[] calledAhead = new boolean[PLACES];
        private final int[] forces = new int[FORCES];

        Days(Land land, Hand hand, Orders orders, Rules rules, Loads loads) {
            this.land = land;
            this.hand = hand;
            this.orders = orders;
            this.rules = rules;
            this.loads = loads;
            beginAnew();
        }

        void beginAnew() {
            System.arraycopy(hand.stores, 0, stores, 0, SHELVES);
            System.arraycopy(hand.funds, 0, funds, 0, UNIONS);
            for (int p = 0; p < PLACES; p++) purses[p] = hand.purses[p / TOWNS];
            Arrays.fill(hunger, 0);
            Arrays.fill(lacked, NONE);
            Arrays.fill(outs, 0);
            Arrays.fill(back, 0);
            Arrays.fill(states, WAITING);
            Arrays.fill(left, NONE);
            Arrays.fill(arrival, NONE);
        }

        int loadsThatAre(int state) {
            int found = 0;
            for (int l = 0; l < loads.count; l++) {
                if (states[l] == state) found++;
            }
            return found;
        }

        int run(int from, int hours, boolean atOnce) {
            listenAhead(from, atOnce);
            int came = 0;
            for (int h = from; h < from + hours; h++) came += step(h, atOnce);
            return came;
        }

        // Asked anew, not kept: a road that came since may have brought word earlier. Ahead of hour 0 none has come.
        private void listenAhead(int hour, boolean atOnce) {
            orders.listen(hour - 1, atOnce);
            for (int p = 0; p < PLACES; p++) calledAhead[p] = orders.calls(p);
        }

        private int step(int hour, boolean atOnce) {
            rules.holdIn(hour, forces);
            orders.listen(hour, atOnce);
            arrive(hour);
            callOut();
            if (hour > 0 && hour % DAY == 0) payAll();
            for (int l = 0; l < loads.count; l++) {
                if (states[l] == WAITING && loads.hours[l] <= hour) send(l, hour);
            }
            return use(hour);
        }

        private void arrive(int hour) {
            for (int l = 0; l < loads.count; l++) {
                if (states[l] != ON_THE_WAY || arrival[l] != hour) continue;
                int shelf = loads.tos[l] * GOODS + loads.goods[l];
                stores[shelf] = Math.min(MOST_STORE, stores[shelf] + loads.amounts[l]);
                states[l] = THERE;
            }
        }

        private void callOut() {
            for (int p = 0; p < PLACES; p++) {
                boolean called = orders.calls(p);
                if (!called) outs[p] = 0;
                else if (!calledAhead[p]) outs[p] = hand.members[p];
                calledAhead[p] = called;
            }
        }

        private void payAll() {
            for (int p = 0; p < PLACES; p++) {
                if (outs[p] > 0) payDay(p);
            }
        }

        private void payDay(int place) {
            int union = place / TOWNS;
            int pay = forces[PAY];
            int heads = outs[place];
            int paid = pay == 0 ? heads : Math.min(heads, funds[union] / pay);
            funds[union] -= paid * pay;
            purses[place] += (paid == heads ? pay : 0) - forces[COST];
            if (purses[place] >= 0) return;
            purses[place] = 0;
            int going = Math.max(1, heads * forces[FEAR] / 100);
            outs[place] -= going;
            back[place] += going;
        }

        private void send(int l, int hour) {
            if (loads.missing(l, forces) != 0) return;
            int from = loads.froms[l];
            int way = land.way(from, loads.tos[l]);
            if (way == NONE) {
                states[l] = STOPPED;
                return;
            }
            int shelf = from * GOODS + loads.goods[l];
            if (stores[shelf] < loads.amounts[l]) return;
            stores[shelf] -= loads.amounts[l];
            states[l] = ON_THE_WAY;
            left[l] = hour;
            // Union 0 has the first places, one a town.
            arrival[l] = hour + (outs[from] > 0 ? way * forces[SLOW] : way);
        }

        private int use(int hour) {
            int came = 0;
            for (int s = 0; s < SHELVES; s++) {
                int lack = Math.max(0, hand.needs[s] - stores[s]);
                stores[s] = Math.max(0, stores[s] - hand.needs[s]);
                hunger[s] += lack;
                came += lack;
                if (lack > 0 && lacked[s] == NONE) lacked[s] = hour;
            }
            return came;
        }
    }

    /** Who speaks for whom. */
    private static final class Leaves {
        final int[] speakers = new int[MOST_LEAVES];
        final int[] others = new int[MOST_LEAVES];
        final int[] froms = new int[MOST_LEAVES];
        final int[] tos = new int[MOST_LEAVES];
        final boolean[] sures = new boolean[MOST_LEAVES];
        int count = 0;

        int give(int a, int b, int from, int to, boolean sure) {
            speakers[count] = a;
            others[count] = b;
            froms[count] = from;
            tos[count] = to;
            sures[count] = sure;
            return count++;
        }

        // A chain of leaves without a ring has fewer links than there are speakers.
        int bound(int set, int hour, boolean sureOnly) {
            int all = set;
            for (int link = 1; link < SPEAKERS; link++) {
                for (int v = 0; v < count; v++) {
                    boolean leads = inForce(v, hour) && (sures[v] || !sureOnly);
                    if (leads && has(all, speakers[v])) all |= 1 << others[v];
                }
            }
            return all;
        }

        private boolean inForce(int v, int hour) {
            return froms[v] <= hour && hour <= tos[v];
        }
    }

    /** The game of two sides, solved from its last day back. */
    private static final class Game {
        /** The score at the start of the last day is at most this far from 0. */
        private static final int FAR = (MOST_DAYS - 1) * MOST_ADDED;

        final int[] added = new int[MOVES * MOVES];
        int worth = 0;
        int best = 0;
        /** By score: what comes in the end from the start of this day on, and of the next one. */
        private int[] worths = new int[2 * FAR + 1];
        private int[] later = new int[2 * FAR + 1];
        private int end = 1;

        static int rows(int days) {
            int rows = 1;
            for (int d = 0; d < days; d++) rows *= MOVES * MOVES;
            return rows;
        }

        int score(int days, int end, int row) {
            int score = 0;
            int rest = row;
            for (int d = 0; d < days; d++) {
                int first = rest % MOVES;
                int second = rest / MOVES % MOVES;
                rest = rest / MOVES / MOVES;
                if (Math.abs(score) < end) score += added[first * MOVES + second];
            }
            return score;
        }

        void solve(int days, int end) {
            this.end = end;
            int least = added[0];
            int most = added[0];
            for (int v : added) {
                least = Math.min(least, v);
                most = Math.max(most, v);
            }
            for (int day = days - 1; day >= 0; day--) {
                solveDay(day, least, most, day == days - 1);
                int[] spare = later;
                later = worths;
                worths = spare;
            }
        }

        // Day 0 has score 0 alone and comes last: worth and best are its own then.
        private void solveDay(int day, int least, int most, boolean lastDay) {
            int from = Math.max(day * least, 1 - end);
            int to = Math.min(day * most, end - 1);
            for (int score = from; score <= to; score++) {
                worth = answer(score, 0, lastDay);
                best = 0;
                for (int move = 1; move < MOVES; move++) {
                    int found = answer(score, move, lastDay);
                    if (found > worth) {
                        worth = found;
                        best = move;
                    }
                }
                worths[FAR + score] = worth;
            }
        }

        private int answer(int score, int move, boolean lastDay) {
            int lowest = outcome(score + added[move * MOVES], lastDay);
            for (int reply = 1; reply < MOVES; reply++) {
                lowest = Math.min(lowest, outcome(score + added[move * MOVES + reply], lastDay));
            }
            return lowest;
        }

        private int outcome(int score, boolean lastDay) {
            return lastDay || Math.abs(score) >= end ? score : later[FAR + score];
        }
    }
}
