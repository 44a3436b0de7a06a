/** Promises 17 to 20: the edges that their sentences name, each with a test of its own. */
public final class RulesEdgesTest {
    private static final String[] NUMBERED = {"pay", "cost", "fear", "slow"};
    private static final int[] LEAST = {0, 0, 0, 1};
    private static final int[] MOST = {99, 99, 100, 9};
    private static final String[] GOODS = {"bread", "milk", "coal"};
    private static final String[] STAMPS = {"owners", "council", "union", "state"};

    public static void main(String[] args) {
        bytesOfALong();
        bytesAtMost();
        longestText();
        everyByte();
        textIsEmptyThen();
        eightRules();
        hoursOfARule();
        faultOfTheLatest();
        boundsOfNumbers();
        figures();
        blanks();
        wordsSideBySide();
        everyStampOfEveryGood();
        stampAgain();
        ninthClause();
        firstByteFirst();
        theEnd();
        strikeOfWhatThereIs();
        strikeFromItsHour();
        strikesOfStrikes();
        theLastRules();
        eightRulesOfEightClauses();
        Check.end();
    }

    private static void forces(String name, NineDays x, int hour, int... want) {
        for (int w = 0; w < 7; w++) Check.due(name + ": force " + w + " in " + hour, x.force(w, hour), want[w]);
    }

    /** "Up to eight bytes (n 1 .. 8) of a long, the highest of these first, come behind THE TEXT: how many it has." */
    private static void bytesOfALong() {
        String text = "need bread owners,state;cost 17;";
        for (int n = 1; n <= 8; n++) {
            NineDays x = new NineDays();
            for (int from = 0; from < text.length(); from += n) {
                int size = Math.min(n, text.length() - from);
                // What stands above the bytes that are asked for does not come.
                long bytes = -1L;
                for (int i = 0; i < size; i++) bytes = bytes << 8 | text.charAt(from + i);
                Check.due("bytes by " + n, x.feed(size, bytes), from + size);
                Check.due("bytes told by " + n, x.count(12), from + size);
            }
            Check.due("rule by " + n, x.rule(0), 0);
            forces("by " + n, x, 0, 9, 2, 12, 2, 17, 30, 2);
        }
    }

    /** "texts (160 bytes at most each)". */
    private static void bytesAtMost() {
        for (int n = 1; n <= 8; n++) {
            NineDays x = new NineDays();
            int most = 160 / n * n;
            for (int has = n; has <= most; has += n) Check.due("feed " + n, x.feed(n, 0L), has);
            for (int k = 1; k <= 8; k++) {
                if (most + k > 160) Check.due("full for " + k + " behind " + most, x.feed(k, 0L), NineDays.FULL);
            }
            Check.due("it has", x.count(12), most);
            if (most < 160) Check.due("the last ones", x.feed(160 - most, 0L), 160);
            Check.due("one more", x.feed(1, 0L), NineDays.FULL);
            Check.due("it has 160", x.count(12), 160);
        }
    }

    /** A text of 160 bytes is a RULE too, and after it 160 more may come. */
    private static void longestText() {
        String tail = "slow 7;";
        NineDays x = new NineDays();
        for (int r = 0; r < 2; r++) {
            Check.feed(x, " ".repeat(160 - tail.length()) + tail);
            Check.due("one more", x.feed(1, ' '), NineDays.FULL);
            Check.due("a rule of 160 bytes", x.rule(r), r);
            Check.due("its last clause", x.force(6, r), 7);
        }
        String open = " ".repeat(154) + "slow 7";
        Check.faulty(x, open, 1, 160);
        Check.faulty(x, " ".repeat(159) + ";", 1, 159);
    }

    /** "blanks (32)", "words are letters a .. z": no other byte stands for one. */
    private static void everyByte() {
        for (int b = 0; b < 256; b++) {
            NineDays x = new NineDays();
            x.feed(1, b);
            boolean blank = b == 32;
            Check.due("a text of byte " + b, x.rule(0), blank ? 0 : -11);
            Check.due("fault of byte " + b, x.fault(), blank ? -1 : 0);
            x.feed(3, 0x706179);
            x.feed(1, b);
            x.feed(2, 0x393b);
            boolean figure = b >= '0' && b <= '9';
            boolean letter = b >= 'a' && b <= 'z';
            int want = blank ? 1 : figure ? 0 : -11;
            Check.due("byte " + b + " behind a word", x.rule(0), want);
            Check.due("fault of byte " + b + " behind a word", x.fault(), want >= 0 ? -1 : letter ? 0 : 3);
            Check.due("pay with byte " + b, x.force(3, 0), want < 0 ? 2 : figure ? 10 * (b - '0') + 9 : 9);
        }
    }

    /** "THE TEXT (it is empty then)": of a RULE, and of a FAULT. */
    private static void textIsEmptyThen() {
        NineDays x = new NineDays();
        Check.feed(x, "pay 5;");
        x.rule(0);
        Check.due("empty behind a rule", x.count(12), 0);
        Check.due("begun anew", x.feed(2, 0x7061), 2);
        Check.due("pa alone cannot stand", x.rule(0), -11);
        Check.due("empty behind a fault", x.count(12), 0);
        Check.due("begun anew", x.feed(2, 0x7920), 2);
        Check.due("y alone cannot stand", x.rule(0), -11);
        Check.due("a text of nothing is a rule of no clause", x.rule(0), 1);
        forces("behind all of them", x, 0, 4, 2, 12, 5, 5, 30, 2);
    }

    /** "RULES (8 at most)": "FULL (THE TEXT stays)". */
    private static void eightRules() {
        NineDays x = new NineDays();
        for (int r = 0; r < 8; r++) {
            Check.due("rules before", x.count(8), r);
            Check.enact(x, r, "cost " + r + ";", r);
        }
        Check.feed(x, "cost 50;");
        for (int k = 0; k < 3; k++) {
            Check.due("a ninth", x.rule(100), NineDays.FULL);
            Check.due("the text stays", x.count(12), 8);
        }
        Check.due("more may come behind it", x.feed(1, ' '), 9);
        Check.due("rules", x.count(8), 8);
        for (int r = 0; r < 8; r++) Check.due("cost in " + r, x.force(4, r), r);
        Check.due("cost of the last one", x.force(4, 240), 7);
    }

    /** "in force from an hour (0 .. 240) on", hours that are over too. */
    private static void hoursOfARule() {
        NineDays x = new NineDays();
        Check.enact(x, 0, "pay 10;", 0);
        Check.enact(x, 240, "pay 11;", 1);
        Check.enact(x, 120, "pay 12;", 2);
        int[] hours = {0, 119, 120, 239, 240};
        int[] want = {10, 10, 12, 12, 11};
        for (int i = 0; i < hours.length; i++) Check.due("pay in " + hours[i], x.force(3, hours[i]), want[i]);
        Check.feed(x, "pay 13;");
        Check.due("hour 241", x.rule(241), NineDays.OUTSIDE);
        Check.due("hour -1", x.rule(-1), NineDays.OUTSIDE);
        Check.due("the text stays", x.count(12), 7);
        x.go(100);
        Check.due("an hour that is over", x.rule(1), 3);
        Check.due("pay in hour 0", x.force(3, 0), 10);
        Check.due("pay in hour 1", x.force(3, 1), 13);
    }

    /** "The byte of the FAULT of the latest rule() that was not refused otherwise; NONE." */
    private static void faultOfTheLatest() {
        NineDays x = new NineDays();
        Check.due("no rule() yet", x.fault(), NineDays.NONE);
        Check.due("refused", x.rule(241), NineDays.OUTSIDE);
        Check.due("none still", x.fault(), NineDays.NONE);
        Check.faulty(x, "x", 1, 0);
        Check.due("a fault at byte 0 is told again", x.fault(), 0);
        Check.feed(x, "   y");
        Check.due("feeding changes no fault", x.fault(), 0);
        Check.due("refused", x.rule(-1), NineDays.OUTSIDE);
        Check.due("the fault stays", x.fault(), 0);
        Check.due("the latest", x.rule(0), -11);
        Check.due("its byte", x.fault(), 3);
        Check.enact(x, 0, "pay 1;", 0);
        for (int r = 1; r < 7; r++) Check.enact(x, 0, "pay 1;", r);
        Check.faulty(x, "pay 100;", 2, 4);
        Check.enact(x, 0, "pay 1;", 7);
        Check.feed(x, "z");
        Check.due("full", x.rule(0), NineDays.FULL);
        Check.due("the latest that was not refused was a rule", x.fault(), NineDays.NONE);
    }

    /** "pay 2, cost 5 (0 .. 99 each), fear 30 (0 .. 100), slow 2 (1 .. 9)": "2 ... out of its bounds (at its first)". */
    private static void boundsOfNumbers() {
        for (int k = 0; k < 4; k++) {
            String word = NUMBERED[k] + " ";
            int at = word.length();
            NineDays x = new NineDays();
            Check.enact(x, 1, word + LEAST[k] + ";", 0);
            Check.enact(x, 2, word + MOST[k] + ";", 1);
            Check.due(word + "least", x.force(3 + k, 1), LEAST[k]);
            Check.due(word + "most", x.force(3 + k, 2), MOST[k]);
            if (LEAST[k] > 0) Check.faulty(x, word + (LEAST[k] - 1) + ";", 2, at);
            Check.faulty(x, word + (MOST[k] + 1) + ";", 2, at);
            Check.faulty(x, word + "999;", 2, at);
            Check.faulty(x, word + " 999", 2, at + 1);
            Check.due(word + "is as it was", x.force(3 + k, 240), MOST[k]);
            for (int w = 0; w < 7; w++) {
                if (w != 3 + k) Check.due(word + "alone", x.force(w, 240), new int[] {4, 2, 12, 2, 5, 30, 2}[w]);
            }
        }
    }

    /** "NUMBERS have one to three figures", "2 a NUMBER of four figures or more". */
    private static void figures() {
        for (int k = 0; k < 4; k++) {
            String word = NUMBERED[k];
            int at = word.length() + 1;
            NineDays x = new NineDays();
            Check.enact(x, 1, word + " 5;", 0);
            Check.enact(x, 2, word + " 06;", 1);
            Check.enact(x, 3, word + " 007;", 2);
            for (int h = 1; h <= 3; h++) Check.due(word + " in " + h, x.force(3 + k, h), 4 + h);
            Check.faulty(x, word + " 0008;", 2, at);
            Check.faulty(x, word + " 0000000000000008;", 2, at);
            Check.faulty(x, word + " 4294967301;", 2, at);
            Check.faulty(x, word + " 18446744073709551621;", 2, at);
            Check.faulty(x, word + " ;", 1, at);
            Check.faulty(x, word + ";", 1, at - 1);
            Check.due(word + " in 4", x.force(3 + k, 4), 7);
        }
        NineDays y = new NineDays();
        Check.enact(y, 0, "", 0);
        Check.enact(y, 0, "strike 0;", 1);
        Check.enact(y, 0, "strike 00;", 2);
        Check.enact(y, 0, "strike 002;", 3);
        Check.faulty(y, "strike 0000;", 2, 7);
        Check.faulty(y, "strike ;", 1, 7);
    }

    /** "blanks (32) may stand anywhere but within words and NUMBERS". */
    private static void blanks() {
        NineDays x = new NineDays();
        Check.enact(x, 1, "need coal state,owners;pay7;cost8;", 0);
        Check.enact(x, 2, "  need  milk  state  ,  owners  ;  pay  9  ;  ", 1);
        forces("no blank but between words", x, 1, 4, 2, 9, 7, 8, 30, 2);
        forces("blanks anywhere", x, 2, 4, 9, 9, 9, 8, 30, 2);
        Check.faulty(x, "ne ed milk state;", 1, 0);
        Check.faulty(x, "need mi lk state;", 1, 5);
        Check.faulty(x, "need milk sta te;", 1, 10);
        Check.faulty(x, "pa y 1;", 1, 0);
        Check.faulty(x, "pay 1 1;", 1, 6);
        Check.faulty(x, "strike 0 0;", 1, 9);
        Check.enact(x, 3, "    ", 2);
        forces("blanks alone", x, 3, 4, 9, 9, 9, 8, 30, 2);
    }

    /** "two words side by side need one": "1 it cannot stand there (a word that cannot: at its first letter)". */
    private static void wordsSideBySide() {
        NineDays x = new NineDays();
        Check.faulty(x, "needmilk state;", 1, 0);
        Check.faulty(x, "need milkstate;", 1, 5);
        Check.faulty(x, "need milk stateowners;", 1, 10);
        Check.faulty(x, "need milk state owners;", 1, 16);
        Check.faulty(x, "need milk;", 1, 9);
        Check.faulty(x, "need;", 1, 4);
        Check.faulty(x, "need state;", 1, 5);
        Check.faulty(x, "need milk milk;", 1, 10);
        Check.faulty(x, "need milk state,milk;", 1, 16);
        Check.faulty(x, "need milk state,,owners;", 1, 16);
        Check.faulty(x, "need milk ,state;", 1, 10);
        Check.faulty(x, "need milk state,;", 1, 16);
        Check.faulty(x, "need milk 1;", 1, 10);
        Check.faulty(x, "need milk state 1;", 1, 16);
        Check.faulty(x, "milk state;", 1, 0);
        Check.faulty(x, "state;", 1, 0);
        Check.faulty(x, "pay pay;", 1, 4);
        Check.faulty(x, "pay milk;", 1, 4);
        Check.faulty(x, "pay 1,2;", 1, 5);
        Check.faulty(x, "pay 1 pay;", 1, 6);
        Check.faulty(x, "pay 1x;", 1, 5);
        Check.faulty(x, ",", 1, 0);
        Check.faulty(x, ";pay 1;", 1, 0);
        Check.faulty(x, "pay 1; ;", 1, 7);
        Check.faulty(x, "pay 1;2;", 1, 6);
        Check.faulty(x, "pay 1;1000;", 1, 6);
        Check.faulty(x, "pay 1;Pay 1;", 1, 6);
        forces("no rule came", x, 240, 4, 2, 12, 2, 5, 30, 2);
    }

    /** "good = 'bread' | 'milk' | 'coal'. stamp = 'owners' | 'council' | 'union' | 'state'": every SET of every GOOD. */
    private static void everyStampOfEveryGood() {
        for (int set = 1; set < 16; set++) {
            StringBuilder up = new StringBuilder();
            StringBuilder down = new StringBuilder();
            for (int s = 0; s < 4; s++) {
                if ((set >> s & 1) == 0) continue;
                up.append(up.length() == 0 ? "" : ",").append(STAMPS[s]);
                down.insert(0, STAMPS[s] + (down.length() == 0 ? "" : ","));
            }
            for (int g = 0; g < 3; g++) {
                NineDays x = new NineDays();
                int[] want = {4, 2, 12, 2, 5, 30, 2};
                want[g] = set;
                Check.enact(x, 0, "need " + GOODS[g] + " " + up + ";", 0);
                forces("set " + set + " of " + GOODS[g], x, 0, want);
                NineDays y = new NineDays();
                Check.enact(y, 0, "need " + GOODS[g] + " " + down + ";", 0);
                forces("set " + set + " of " + GOODS[g] + " from behind", y, 0, want);
            }
        }
    }

    /** "4 a stamp again in its clause (at its first letter)". */
    private static void stampAgain() {
        NineDays x = new NineDays();
        for (String stamp : STAMPS) {
            String head = "need milk " + stamp + ",";
            Check.faulty(x, head + stamp + ";", 4, head.length());
            Check.faulty(x, head + "  " + stamp, 4, head.length() + 2);
            Check.faulty(x, head + stamp + "s;", 1, head.length());
        }
        String all = "need milk owners,council,union,state,";
        for (String stamp : STAMPS) Check.faulty(x, all + stamp + ";", 4, all.length());
        Check.faulty(x, all + "fish;", 1, all.length());
        NineDays y = new NineDays();
        Check.enact(y, 0, "need milk state;need milk state;need coal state;", 0);
        forces("again, but in another clause", y, 0, 4, 8, 8, 2, 5, 30, 2);
    }

    /** "5 a ninth clause (at its first letter)". */
    private static void ninthClause() {
        String[] clauses = {"pay 1;", "cost 2;", "fear 3;", "slow 4;", "strike 0;", "need bread state;"};
        for (String clause : clauses) {
            NineDays x = new NineDays();
            Check.enact(x, 0, "", 0);
            Check.enact(x, 0, clause.repeat(8), 1);
            String eight = clause.repeat(8);
            if (eight.length() + 9 > 160) continue;
            for (String ninth : clauses) Check.faulty(x, eight + ninth.substring(0, ninth.length() - 1), 5, eight.length());
            Check.faulty(x, eight + "  pay", 5, eight.length() + 2);
            Check.faulty(x, eight + " pays", 1, eight.length() + 1);
            Check.faulty(x, eight + " ,", 1, eight.length() + 1);
        }
        NineDays y = new NineDays();
        Check.enact(y, 0, "pay 1;pay 2;pay 3;pay 4;pay 5;pay 6;pay 7;", 0);
        Check.enact(y, 1, "pay 1;pay 2;pay 3;pay 4;pay 5;pay 6;pay 7;pay 8;  ", 1);
        Check.due("seven clauses", y.force(3, 0), 7);
        Check.due("eight clauses", y.force(3, 1), 8);
    }

    /** "FAULTS, at the first byte that has one, of these the least". */
    private static void firstByteFirst() {
        NineDays x = new NineDays();
        Check.faulty(x, "pay 100;x", 2, 4);
        Check.faulty(x, "strike 5;x", 3, 7);
        Check.faulty(x, "need milk state,state;x", 4, 16);
        Check.faulty(x, "x pay 100;", 1, 0);
        Check.faulty(x, "pay 1;strike 0;pay 100;", 3, 13);
        Check.faulty(x, "pay 100;strike 0;", 2, 4);
        Check.faulty(x, "need milk state,state;pay 100;", 4, 16);
        Check.faulty(x, "strike 1000;", 2, 7);
        Check.faulty(x, "strike 999;", 3, 7);
        Check.faulty(x, "pay 1000 100", 2, 4);
        String eight = "pay 1;".repeat(8);
        Check.faulty(x, eight + "strike 1000;", 5, 48);
        Check.faulty(x, eight + "need milk state,state;", 5, 48);
        Check.faulty(x, "pay 1;".repeat(7) + "pay 100;pay 1;", 2, 46);
    }

    /** "(the end at the text's length)". */
    private static void theEnd() {
        NineDays x = new NineDays();
        String text = "need milk state , owners";
        int[] ends = {4, 9, 15, 17, 24};
        for (int end : ends) {
            String cut = text.substring(0, end);
            Check.faulty(x, cut, 1, end);
            Check.faulty(x, cut + "   ", 1, end + 3);
        }
        for (String word : new String[] {"pay", "cost", "fear", "slow", "strike"}) {
            Check.faulty(x, word, 1, word.length());
            Check.faulty(x, word + "  ", 1, word.length() + 2);
        }
        Check.faulty(x, "pay 1", 1, 5);
        Check.faulty(x, "pay 1  ", 1, 7);
        Check.enact(x, 0, "pay 1;", 0);
    }

    /** "3 a strike of a RULE that there is not (at its first)": "one that there is already". */
    private static void strikeOfWhatThereIs() {
        NineDays x = new NineDays();
        for (int r = 0; r < 7; r++) {
            Check.faulty(x, "strike " + r + ";", 3, 7);
            Check.faulty(x, "cost 1; strike " + (r + 1) + ";", 3, 15);
            Check.faulty(x, "strike 999", 3, 7);
            Check.enact(x, 0, "pay " + r + ";", r);
        }
        Check.enact(x, 1, "strike 6; strike 00;", 7);
        Check.due("the last one is struck", x.force(3, 1), 5);
        Check.due("not before", x.force(3, 0), 6);
    }

    /** "no clause of RULE k holds from the hour of this one on". */
    private static void strikeFromItsHour() {
        NineDays x = new NineDays();
        Check.enact(x, 10, "pay 7;need milk state;slow 5;", 0);
        Check.enact(x, 20, "strike 0;cost 9;", 1);
        forces("before both", x, 9, 4, 2, 12, 2, 5, 30, 2);
        forces("by the first", x, 10, 4, 8, 12, 7, 5, 30, 5);
        forces("the hour ahead of the strike", x, 19, 4, 8, 12, 7, 5, 30, 5);
        forces("struck", x, 20, 4, 2, 12, 2, 9, 30, 2);
        forces("for good", x, 240, 4, 2, 12, 2, 9, 30, 2);
        NineDays y = new NineDays();
        Check.enact(y, 20, "pay 7;", 0);
        Check.enact(y, 10, "strike 0;", 1);
        Check.due("struck before its hour", y.force(3, 19), 2);
        Check.due("and from its hour on", y.force(3, 20), 2);
    }

    /** "of RULES whose hour is not after it, from the last number down, one that is not struck by one that counts, counts". */
    private static void strikesOfStrikes() {
        NineDays x = new NineDays();
        Check.enact(x, 0, "pay 50;", 0);
        for (int r = 1; r < 8; r++) Check.enact(x, 10 * r, "strike " + (r - 1) + ";", r);
        for (int r = 1; r < 8; r++) {
            Check.due("a chain of strikes before " + 10 * r, x.force(3, 10 * r - 1), r % 2 == 1 ? 50 : 2);
            Check.due("a chain of strikes in " + 10 * r, x.force(3, 10 * r), r % 2 == 1 ? 2 : 50);
        }
        NineDays y = new NineDays();
        Check.enact(y, 0, "pay 50;", 0);
        Check.enact(y, 0, "strike 0;", 1);
        Check.enact(y, 30, "strike 1;", 2);
        Check.enact(y, 20, "strike 2;", 3);
        Check.due("2 is not in force yet", y.force(3, 19), 2);
        Check.due("nor in 29", y.force(3, 29), 2);
        Check.due("2 is struck from before its hour", y.force(3, 30), 2);
        Check.enact(y, 40, "strike 3;strike 1;", 4);
        Check.due("before 4", y.force(3, 39), 2);
        Check.due("1 is struck by 4", y.force(3, 40), 50);
        Check.enact(y, 50, "strike 4;strike 4;strike 0;", 5);
        Check.due("0 is struck by 5", y.force(3, 50), 2);
        NineDays z = new NineDays();
        Check.enact(z, 0, "pay 50;slow 9;", 0);
        Check.enact(z, 5, "strike 0;", 1);
        Check.enact(z, 5, "strike 1;strike 0;", 2);
        Check.due("struck by 1 and by 2", z.force(6, 5), 2);
        Check.due("before them", z.force(6, 4), 9);
    }

    /** "They follow one another by hours, then numbers; the last rules." */
    private static void theLastRules() {
        NineDays x = new NineDays();
        Check.enact(x, 30, "pay 30;", 0);
        Check.enact(x, 20, "pay 20;cost 20;", 1);
        Check.enact(x, 10, "pay 10;cost 10;fear 10;", 2);
        Check.enact(x, 20, "pay 21;slow 4;", 3);
        Check.enact(x, 30, "fear 31;", 4);
        Check.enact(x, 0, "pay 1;cost 1;fear 1;slow 1;need coal council;", 5);
        forces("from 0", x, 0, 4, 2, 2, 1, 1, 1, 1);
        forces("to 9", x, 9, 4, 2, 2, 1, 1, 1, 1);
        forces("from 10", x, 10, 4, 2, 2, 10, 10, 10, 1);
        forces("to 19", x, 19, 4, 2, 2, 10, 10, 10, 1);
        forces("from 20", x, 20, 4, 2, 2, 21, 20, 10, 4);
        forces("from 30", x, 30, 4, 2, 2, 30, 20, 31, 4);
        forces("to 240", x, 240, 4, 2, 2, 30, 20, 31, 4);
        Check.enact(x, 20, "need coal state;need coal union;pay 22;pay 23;", 6);
        forces("within a text too", x, 29, 4, 2, 4, 23, 20, 10, 4);
        forces("hours first", x, 30, 4, 2, 4, 30, 20, 31, 4);
    }

    /** The eighth clause of one RULE and the first of the next are apart. */
    private static void eightRulesOfEightClauses() {
        NineDays x = new NineDays();
        Check.enact(x, 0, "pay 10;", 0);
        Check.enact(x, 5, "cost 1;cost 2;cost 3;cost 4;cost 5;cost 6;cost 7;cost 8;", 1);
        Check.enact(x, 9, "strike 0;fear 1;fear 2;fear 3;fear 4;fear 5;fear 6;strike 1;", 2);
        Check.enact(x, 7, "slow 3;", 3);
        forces("before all strikes", x, 8, 4, 2, 12, 10, 8, 30, 3);
        forces("struck", x, 9, 4, 2, 12, 2, 5, 6, 3);
        NineDays y = new NineDays();
        for (int r = 0; r < 8; r++) {
            String text = "cost 1;fear 1;slow 1;cost 2;fear 2;slow 2;pay 3;need milk state;";
            Check.enact(y, r, text.replace("pay 3", "pay " + (30 + r)), r);
        }
        for (int r = 0; r < 8; r++) forces("eight of eight " + r, y, r, 4, 8, 12, 30 + r, 2, 2, 2);
        forces("in the end", y, 240, 4, 8, 12, 37, 2, 2, 2);
    }
}
