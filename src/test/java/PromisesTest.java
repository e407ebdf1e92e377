/** For each promise of the document: ordinary inputs, the edges, wrong inputs. Answers told by hand. */
public final class PromisesTest {
    private static final int NONE = -1, BAD = -2, STATE = -3, FULL = -4;
    private static final long NO = -4611686018427387904L;
    private static final int LEAST = Integer.MIN_VALUE, GREATEST = Integer.MAX_VALUE;

    public static void main(String[] args) {
        newObject();
        people();
        speak();
        told();
        chest();
        set();
        chestTold();
        worthOfKinds();
        feed();
        text();
        textFaults();
        textDepth();
        textValues();
        force();
        lay();
        mayLay();
        fitsOfKinds();
        lawful();
        best();
        move();
        quarrel();
        peace();
        in();
        first();
        worth();
        opened();
        band();
        judge();
        place();
        drawn();
        chance();
        image();
        back();
        count();
        sheet();
        cell();
        copy();
        speaks();
        taken();
        Check.end();
    }

    private static void due(String call, long got, long want) {
        Check.due(call, got, want);
    }

    /** All that can be told without changing it. */
    private static String whole(TwoKeys x) {
        StringBuilder s = new StringBuilder();
        for (int what = 0; what < 8; what++) s.append(x.count(what)).append(' ');
        for (int a = 0; a < 6; a++) for (int b = 0; b < 6; b++) s.append(x.told(a, b, 0)).append(' ');
        for (int c = 0; c < 4; c++) for (int what = 0; what < 5; what++) s.append(x.chestTold(c, what)).append(' ');
        for (int i = 0; i < 4; i++) s.append(x.judge(i)).append(' ').append(x.place(i)).append(' ');
        return s.toString();
    }

    /** A town in which something stands everywhere, for calls that must be refused. */
    private static TwoKeys lived() {
        TwoKeys x = new TwoKeys();
        x.speak(0, 1, 3);
        x.speak(2, 3, 0);
        x.chest(1, 123);
        x.chest(4, 456);
        x.lay(0, 0, 2);
        x.set(0, 0, 2);
        feed(x, "may 1;");
        x.sheet(0, 0, 2);
        x.cell(0, 0, 1);
        x.sheet(1, 2, 3);
        return x;
    }

    private interface Call { long on(TwoKeys x); }

    private static void refused(String call, Call c, long want) {
        TwoKeys x = lived();
        String before = whole(x);
        due(call, c.on(x), want);
        Check.holds(call + " changes nothing", before.equals(whole(x)));
    }

    private static void feed(TwoKeys x, String s) {
        for (int i = 0; i < s.length(); i++) x.feed(s.charAt(i));
    }

    private static int read(String s) {
        TwoKeys x = new TwoKeys();
        feed(x, s);
        int answer = x.text();
        due("tape behind text", x.count(5), 0);
        return answer;
    }

    private static TwoKeys ruled(String s) {
        TwoKeys x = new TwoKeys();
        feed(x, s);
        due("text " + s, x.text(), 1);
        due("force", x.force(1), 0);
        return x;
    }

    private static void newObject() {
        TwoKeys x = new TwoKeys();
        int[] want = {5, 0, 0, 4, 1, 0, 0, 0};
        for (int what = 0; what < 8; what++) due("new: count " + what, x.count(what), want[what]);
        for (int b = 1; b < 5; b++) for (int a = 0; a < b; a++) due("new: told", x.told(a, b, 0), 13);
        for (int i = 0; i < 4; i++) due("new: sheet", x.judge(i), -11);
        due("new: back", x.back(), STATE);
        due("constants", TwoKeys.NONE * 1000 + TwoKeys.BAD * 100 + TwoKeys.STATE * 10 + TwoKeys.FULL, -1234);
        due("NO", TwoKeys.NO, NO);
    }

    private static void people() {
        TwoKeys x = lived();
        due("people(2)", x.people(2), 5);
        due("people(6)", x.people(6), 2);
        due("nobody speaks", x.count(7), 0);
        due("told", x.told(2, 3, 0), 13);
        due("held", x.chestTold(0, 4), NONE);
        due("keys", x.lawful(2), 0);
        due("month stays", x.count(2), 2);
        due("chests stay", x.count(1), 2);
        due("most stays", x.count(3), 4);
        due("people(6)", x.people(6), 6);
        for (int n : new int[] {1, 7, 0, -1, LEAST, GREATEST}) refused("people " + n, y -> y.people(n), BAD);
    }

    private static void speak() {
        TwoKeys x = new TwoKeys();
        due("speak", x.speak(4, 0, 12), 13);
        due("speak the other way round", x.speak(0, 4, 0), 12);
        due("speak never", x.speak(0, 4, 13), 0);
        due("speak", x.speak(0, 4, 5), 13);
        int[][] bad = {{0, 0, 0}, {-1, 0, 0}, {0, -1, 0}, {5, 0, 0}, {0, 5, 0}, {0, 1, -1}, {0, 1, 14},
            {LEAST, 0, 0}, {0, GREATEST, 0}, {0, 1, LEAST}, {0, 1, GREATEST}};
        for (int[] b : bad) refused("speak", y -> y.speak(b[0], b[1], b[2]), BAD);
        x.people(2);
        due("speak of two", x.speak(0, 2, 1), BAD);
        due("speak of two", x.speak(1, 0, 1), 13);
    }

    private static void told() {
        TwoKeys x = new TwoKeys();
        x.people(6);
        for (int p = 0; p < 5; p++) x.speak(p, p + 1, p);
        due("never", x.told(0, 5, 0), 13);
        due("told month", x.told(4, 3, 0), 3);
        due("not yet", x.told(0, 5, 1), 9);
        due("no band", x.told(0, 5, 2), 9);
        x.set(0, 0, 4);
        due("far", x.told(0, 5, 1), 4);
        due("far", x.told(5, 0, 1), 4);
        due("band", x.told(0, 5, 2), 6);
        due("speak", x.told(1, 2, 1), 0);
        due("band of two", x.told(1, 2, 2), 2);
        x.speak(1, 4, 4);
        due("shorter", x.told(0, 5, 1), 2);
        due("shorter band", x.told(0, 5, 2), 4);
        x.set(0, 0, 3);
        due("a month earlier", x.told(0, 4, 1), 3);
        int[][] bad = {{0, 0, 0}, {-1, 0, 0}, {0, 5, 0}, {0, 1, 3}, {0, 1, -1}, {0, 1, LEAST}};
        for (int[] b : bad) refused("told", y -> y.told(b[0], b[1], b[2]), BAD);
    }

    private static void chest() {
        TwoKeys x = new TwoKeys();
        due("chest", x.chest(0, 0), 0);
        due("chest", x.chest(5, 999), 1);
        due("kind", x.chestTold(1, 0), 5);
        due("number", x.chestTold(1, 1), 9);
        due("gold", x.chestTold(1, 2), 99);
        due("chest", x.chest(2, 507), 2);
        due("number", x.chestTold(2, 1), 7);
        due("gold", x.chestTold(2, 2), 50);
        due("nobody holds it", x.chestTold(2, 4), NONE);
        due("chest", x.chest(3, 1), 3);
        due("full", x.chest(0, 0), FULL);
        due("bad is ahead of full", x.chest(6, 0), BAD);
        due("bad is ahead of full", x.chest(0, 1000), BAD);
        due("chests", x.count(1), 4);
        int[][] bad = {{-1, 0}, {6, 0}, {0, -1}, {0, 1000}, {LEAST, 0}, {0, LEAST}, {0, GREATEST}};
        for (int[] b : bad) refused("chest", y -> y.chest(b[0], b[1]), BAD);
    }

    private static void set() {
        TwoKeys x = lived();
        due("month", x.set(0, GREATEST, 12), 2);
        due("month", x.set(0, -9, 0), 12);
        due("most", x.set(1, GREATEST, 9), 4);
        due("most", x.set(1, LEAST, 1), 9);
        due("most", x.count(3), 1);
        due("number", x.set(2, 1, 9), 6);
        due("number", x.set(2, 1, 0), 9);
        due("gold", x.set(3, 1, 99), 45);
        due("gold", x.set(3, 1, 0), 99);
        due("of another none", x.chestTold(0, 1), 3);
        int[][] bad = {{0, 0, 13}, {0, 0, -1}, {1, 0, 0}, {1, 0, 10}, {2, 0, 10}, {2, 0, -1}, {2, 2, 0}, {2, -1, 0},
            {3, 0, 100}, {3, 0, -1}, {3, 2, 0}, {3, -1, 0}, {4, 0, 0}, {-1, 0, 0}, {0, 0, LEAST}, {2, GREATEST, 0}};
        for (int[] b : bad) refused("set", y -> y.set(b[0], b[1], b[2]), BAD);
    }

    private static void chestTold() {
        TwoKeys x = lived();
        int[] want = {1, 3, 12, 15, 1, 1};
        for (int what = 0; what < 6; what++) due("chestTold 0, " + what, x.chestTold(0, what), want[what]);
        due("nobody", x.chestTold(1, 4), NONE);
        due("nobody", x.chestTold(1, 5), 0);
        x.lay(0, 3, 2);
        due("pair", x.chestTold(0, 4), 5);
        due("who speak", x.chestTold(0, 5), 0);
        x.speak(2, 3, 3);
        due("who don't yet, but is its number", x.chestTold(0, 5), 0);
        x.set(2, 0, 4);
        due("who don't yet", x.chestTold(0, 5), 1);
        int[][] bad = {{2, 0}, {-1, 0}, {0, -1}, {0, 6}, {LEAST, 0}, {GREATEST, 0}, {0, LEAST}, {0, GREATEST}};
        for (int[] b : bad) refused("chestTold", y -> y.chestTold(b[0], b[1]), BAD);
    }

    private static void worthOfKinds() {
        // gold 51, number 7, month 0 and 12
        int[][] want = {{51, 51}, {58, 58}, {25, 25}, {58, 70}, {50, 38}, {53, 53}};
        for (int kind = 0; kind < 6; kind++) {
            TwoKeys x = new TwoKeys();
            x.chest(kind, 517);
            due("worth of kind " + kind, x.chestTold(0, 3), want[kind][0]);
            x.set(0, 0, 12);
            due("worth of kind " + kind + " later", x.chestTold(0, 3), want[kind][1]);
        }
        TwoKeys x = new TwoKeys();
        x.chest(4, 130);
        x.chest(5, 4);
        x.set(0, 0, 12);
        due("deep: twice the half that was cut, less the month", x.chestTold(0, 3), 0);
        due("strict, 0 at least", x.chestTold(1, 3), 0);
        x.set(3, 0, 14);
        due("deep", x.chestTold(0, 3), 2);
        x.set(3, 0, 1);
        due("deep, 0 at least", x.chestTold(0, 3), 0);
        x.set(3, 1, 2);
        due("strict", x.chestTold(1, 3), 1);
    }

    private static void feed() {
        TwoKeys x = new TwoKeys();
        for (int i = 1; i <= 160; i++) due("feed", x.feed(i % 2 == 0 ? 255 : 0), i);
        due("full", x.feed(32), FULL);
        due("bad is ahead of full", x.feed(256), BAD);
        due("bytes", x.count(5), 160);
        for (int b : new int[] {-1, 256, LEAST, GREATEST}) refused("feed " + b, y -> y.feed(b), BAD);
        // a byte of 256 less than a letter is none
        refused("feed", y -> y.feed('m' - 256), BAD);
    }

    private static void text() {
        TwoKeys x = new TwoKeys();
        for (int i = 1; i < 6; i++) {
            feed(x, "may 1;costs 1;fears 1;");
            due("text", x.text(), i);
            due("the tape is empty", x.count(5), 0);
            due("texts", x.count(4), i + 1);
        }
        due("full, even with nothing on the tape", x.text(), FULL);
        feed(x, "may ?");
        due("full is ahead of a fault", x.text(), FULL);
        due("the tape stays", x.count(5), 5);
        due("the rule stays", x.count(6), 0);
        String size160 = "may 1;costs 1;fears 1;";
        while (size160.length() < 160) size160 += " ";
        due("160 bytes", read(size160), 1);
    }

    private static void textFaults() {
        due("empty", read(""), -100);
        due("blanks", read(" \n "), -103);
        due("ends too early", read("may"), -103);
        due("ends too early", read("may 1 ; costs 1 ; fears 1 "), -126);
        due("as long as can be", read("mayone;costs 1;fears 1;"), -100);
        due("words and numbers side by side", read("may1or2;costs1and not 2;fears(1)*far;"), 1);
        due("newlines", read("\nmay\n1\n;\ncosts\n1\n;\nfears\n1\n;\n"), 1);
        due("a tab is no blank", read("may\t1;costs 1;fears 1;"), -103);
        due("a carriage return is no blank", read("may 1;\rcosts 1;fears 1;"), -106);
        due("capitals begin no word", read("May 1;costs 1;fears 1;"), -100);
        due("trailing token", read("may 1;costs 1;fears 1;;"), -122);
        due("trailing byte", read("may 1;costs 1;fears 1; ?"), -123);
        due("trailing unknown word", read("may 1;costs 1;fears 1; x"), -123);
        due("order of parts", read("costs 1;may 1;fears 1;"), -100);
        due("a part is missing", read("may 1;fears 1;"), -106);
        due("unknown word", read("may 1 + gold;costs 1;fears 1;"), -108);
        due("z is a letter, too", read("may onez;costs 1;fears 1;"), -104);
        due("a is a letter, too", read("may 1ora;costs 1;fears 1;"), -105);
        due("a key is no name", read("may 1 + may;costs 1;fears 1;"), -108);
        due("four digits", read("may 0001+9999;costs 1;fears 1;"), 1);
        due("five digits", read("may 1+00001;costs 1;fears 1;"), -106);
        due("five digits where no number can be", read("may 1 00001;costs 1;fears 1;"), -106);
        due("first from the left", read("may 1 ) ; costs ? ; fears 99999 ;"), -106);
        due("< only once", read("may 1<2<3;costs 1;fears 1;"), -107);
        due("= behind <", read("may 1<2=3;costs 1;fears 1;"), -107);
        due("in parentheses again", read("may (1<2)<3;costs 1;fears 1;"), 1);
        due("not is none of a sum", read("may 1+not 1;costs 1;fears 1;"), -106);
        due("not behind <", read("may 1<not 1;costs 1;fears 1;"), -106);
        due("not of not", read("may not not 1<2;costs 1;fears 1;"), 1);
        due("minus of minus", read("may 1--1---1;costs 1;fears 1;"), 1);
        due("no plus ahead", read("may +1;costs 1;fears 1;"), -104);
        due("closed too early", read("may 1);costs 1;fears 1;"), -105);
        due("not closed", read("may (1;costs 1;fears 1;"), -106);
        due("nothing in them", read("may ();costs 1;fears 1;"), -105);
        due("nothing behind or", read("may 1 or;costs 1;fears 1;"), -108);
        due("nothing behind *", read("may 2*;costs 1;fears 1;"), -106);
        due("byte 0", read("may 1\u0000;costs 1;fears 1;"), -105);
        due("byte 255", read("may \u00ff;costs 1;fears 1;"), -104);
        due("a byte that is an a with the highest bit", read("m\u00e1y 1;costs 1;fears 1;"), -100);
        due("greater is no sign", read("may 2>1;costs 1;fears 1;"), -105);
        TwoKeys x = new TwoKeys();
        feed(x, "may");
        due("fault", x.text(), -103);
        due("no text by a fault", x.count(4), 1);
        due("the tape is empty by a fault, too", x.count(5), 0);
    }

    private static void textDepth() {
        String rest = ";costs 1;fears 1;";
        due("five (", read("may (((((1)))))" + rest), 1);
        due("six (", read("may ((((((1))))))" + rest), -109);
        due("five -", read("may -----1" + rest), 1);
        due("six -", read("may ------1" + rest), -109);
        due("five not", read("may not not not not not 1" + rest), 1);
        due("six not", read("may not not not not not not 1" + rest), -124);
        due("mixed five", read("may not(not(-1))" + rest), 1);
        due("mixed six", read("may not(not(-(1)))" + rest), -113);
        due("the sixth is a not", read("may -(-(-not 1))" + rest), -109);
        due("the sixth is a not where it may stand", read("may (-(not not not 1))" + rest), -115);
        due("closed again", read("may ((((((1)))))" + rest), -109);
        due("a minus between two is none", read("may (((((1-1)))))" + rest), 1);
        due("a minus ahead of one is", read("may (((((1--1)))))" + rest), -111);
        due("what ended is open no more", read("may (1)+(1)+(1)+(1)+(1)+(1)+-1+-1+-1+-1+-1+-1" + rest), 1);
        due("not ends with what it belongs to",
            read("may not 1 and not 1 and not 1 and not 1 and not 1 and not (1)" + rest), 1);
        due("not is open in its comparison", read("may not not not not 1<((1))" + rest), -123);
        due("- ends ahead of *", read("may -----1*-1" + rest), 1);
        due("open ones are none of the next part", read("may (((((1)))));costs (((((1)))));fears -----1;"), 1);
    }

    private static void textValues() {
        // fears of chest 1 on (1, 3): one 1, other 3, keys 4, month 2, far 1, chest 1
        Object[][] all = {
            {"7", 7}, {"one*10", 10}, {"other*10", 30}, {"keys*10", 40}, {"month*10", 20}, {"far*10", 10}, {"chest*10", 10},
            {"1+2*3", 7}, {"(1+2)*3", 9}, {"20-5-3", 12}, {"20-(5-3)", 18}, {"2*-3+10", 4}, {"10--3", 13},
            {"1<2", 1}, {"2<1", 0}, {"2<2", 0}, {"2=2", 1}, {"2=3", 0}, {"5<3+4", 1}, {"1-2<0", 1},
            {"5 or 0", 1}, {"0 or 0", 0}, {"0 or 7", 1}, {"5 and 7", 1}, {"5 and 0", 0}, {"0 and 5", 0},
            {"not 5", 0}, {"not 0", 1}, {"not not 5", 1}, {"not 1<0", 1}, {"not 0 and 0", 0}, {"not (0 and 0)", 1},
            {"1 or 0 and 0", 1}, {"(1 or 0) and 0", 0}, {"0 and 0 or 1", 1}, {"-1", 0}, {"99", 99}, {"100", 99},
            {"9999*9999", 99}, {"9999*9999*30", 0}, {"not -1", 0}, {"-5 or 0", 1},
            {"2*3*4", 24}, {"100-far-chest-one", 97}, {"month=2 and keys=4", 1}, {"(2=2)*50", 50}, {"0-0", 0}, {"0099", 99},
        };
        for (Object[] row : all) {
            TwoKeys x = ruled("may 1;costs 1;fears " + row[0] + ";");
            x.chest(0, 0);
            x.chest(0, 0);
            x.lay(1, 1, 3);
            x.speak(1, 2, 2);
            x.speak(2, 3, 0);
            x.set(0, 0, 2);
            int without = x.worth(0);
            x.lay(0, 1, 3);
            int keysNow = x.worth(0);
            x.lay(0, -1, 0);
            boolean hasKeys = ((String) row[0]).contains("keys");
            if (!hasKeys) due("fears " + row[0], without, (Integer) row[1]);
            // both chests held: two of chest 0 and two of chest 1; chest 0 itself fears what its own number tells
            if (((String) row[0]).equals("keys*10")) due("fears keys*10", keysNow, 2 * (Integer) row[1]);
        }
        TwoKeys wrap = ruled("may 9999*9999*9999*9999 = 9999*9999*(9999*9999);costs 1;fears 1;");
        wrap.chest(0, 0);
        due("wrapping, either way", wrap.mayLay(0, 0), 1);
        // 9999^3 = 999700029999 is -1037545425 + 233 * 2^32: below 0 as an int
        int cube = 9999 * 9999 * 9999;
        TwoKeys below = ruled("may 9999*9999*9999<0;costs 1;fears 1;");
        below.chest(0, 0);
        due("wrapping", below.mayLay(0, 0), cube < 0 ? 1 : 0);
        Check.holds("the cube wraps", cube != 999700029999L);
    }

    private static void force() {
        TwoKeys x = new TwoKeys();
        due("force", x.force(0), 0);
        feed(x, "may 0;costs 1;fears 1;");
        x.text();
        x.chest(0, 0);
        due("may", x.mayLay(0, 0), 1);
        due("force", x.force(1), 0);
        due("rule", x.count(6), 1);
        due("may not", x.mayLay(0, 0), 0);
        due("force", x.force(2), BAD);
        due("force", x.force(0), 1);
        for (int b : new int[] {-1, 1, 6, LEAST, GREATEST}) refused("force " + b, y -> y.force(b), BAD);
    }

    private static void lay() {
        TwoKeys x = new TwoKeys();
        x.people(6);
        x.chest(0, 0);
        int pair = 0;
        int before = NONE;
        for (int b = 1; b < 6; b++) {
            for (int a = 0; a < b; a++) {
                due("lay", x.lay(0, (a + b) % 2 == 0 ? a : b, (a + b) % 2 == 0 ? b : a), before);
                before = pair;
                pair++;
                due("pair", x.chestTold(0, 4), before);
                due("keys", x.lawful(2), 1);
            }
        }
        due("by nobody", x.lay(0, -1, LEAST), 14);
        due("by nobody", x.lay(0, -1, 0), NONE);
        due("keys", x.lawful(2), 0);
        x.set(1, 0, 1);
        x.chest(0, 0);
        x.speak(0, 1, 0);
        due("truly: though they speak", x.lay(0, 0, 1), NONE);
        due("truly: though it is more than most", x.lay(1, 0, 1), NONE);
        due("keys", x.lawful(2), 2);
        int[][] bad = {{2, 0, 1}, {-1, 0, 1}, {2, -1, 0}, {0, 0, 0}, {0, 5, 0}, {0, 0, 5}, {0, 0, -1}, {0, -2, 0},
            {GREATEST, 0, 1}, {0, LEAST, 0}, {0, 0, GREATEST}};
        for (int[] b : bad) refused("lay", y -> y.lay(b[0], b[1], b[2]), BAD);
    }

    private static void mayLay() {
        TwoKeys x = ruled("may one+chest=2;costs 1;fears 1;");
        x.chest(0, 9);
        x.chest(0, 9);
        due("the chest's place, not its number", x.mayLay(1, 2), 1);
        due("the chest's place", x.mayLay(0, 2), 0);
        due("the chest's place", x.mayLay(0, 5), 1);
        due("the chest's place", x.mayLay(1, 5), 0);
        x.speak(1, 2, 1);
        due("not yet", x.mayLay(1, 2), 1);
        x.set(0, 0, 1);
        due("they speak", x.mayLay(1, 2), 0);
        int[][] bad = {{2, 0}, {-1, 0}, {0, -1}, {0, 10}, {LEAST, 0}, {0, LEAST}, {0, GREATEST}};
        for (int[] b : bad) refused("mayLay", y -> y.mayLay(b[0], b[1]), BAD);
        x.people(2);
        due("pairs of two", x.mayLay(0, 1), BAD);
        x.people(6);
        due("pairs of six", x.mayLay(0, 14), 0);
        due("pairs of six", x.mayLay(0, 15), BAD);
        TwoKeys two = ruled("may -1;costs 1;fears 1;");
        two.chest(0, 0);
        due("not 0 is true", two.mayLay(0, 0), 1);
    }

    private static void fitsOfKinds() {
        // pairs 01 02 12 03 13 23 04 14 24 34: those of 0 and 1, 1 and 2 speak
        String[] number4 = {"0101111111", "0101110000", "0111111111", "1101110000", "0111010111", "0101100000"};
        String[] number1 = {"0101111111", "0101111111", "0111111111", "1101111111", "0111111111", "0101101110"};
        for (int kind = 0; kind < 6; kind++) {
            due("kind " + kind, fits(kind, 4), Integer.parseInt(number4[kind], 2));
            due("kind " + kind, fits(kind, 1), Integer.parseInt(number1[kind], 2));
        }
    }

    private static int fits(int kind, int number) {
        TwoKeys x = new TwoKeys();
        x.chest(kind, number);
        x.speak(0, 1, 0);
        x.speak(1, 2, 0);
        int bits = 0;
        for (int pair = 0; pair < 10; pair++) bits = 2 * bits + x.mayLay(0, pair);
        return bits;
    }

    private static void lawful() {
        TwoKeys x = new TwoKeys();
        x.chest(0, 0);
        x.chest(0, 0);
        due("nobody holds", x.lawful(0), 0);
        due("layings", x.lawful(1), 100);
        x.lay(0, 0, 1);
        due("one is held", x.lawful(0), 0);
        x.lay(1, 1, 2);
        due("lawful", x.lawful(0), 1);
        due("most keys", x.lawful(2), 2);
        x.set(1, 0, 1);
        due("too many keys", x.lawful(0), 0);
        due("no two by one", x.lawful(1), 30);
        x.lay(1, 3, 2);
        due("lawful", x.lawful(0), 1);
        x.speak(2, 3, 0);
        due("they speak", x.lawful(0), 0);
        due("nine pairs are left", x.lawful(1), 30 - 6);
        x.people(6);
        x.set(1, 0, 9);
        x.chest(0, 0);
        x.chest(0, 0);
        due("all rows", x.lawful(1), 50625);
        x.set(1, 0, 4);
        due("nobody could hold more than four", x.lawful(1), 50625);
        x.set(1, 0, 1);
        due("eight hands are too many", x.lawful(1), 0);
        for (int b : new int[] {-1, 3, LEAST, GREATEST}) refused("lawful " + b, y -> y.lawful(b), BAD);
        // texts are told by the laying as it is now
        TwoKeys y = ruled("may keys<1;costs 1;fears 1;");
        y.chest(0, 0);
        due("nobody has keys", y.lawful(1), 10);
        y.lay(0, 0, 1);
        due("those of three others", y.lawful(1), 3);
        due("by its own keys it may not be held", y.lawful(0), 0);
    }

    private static void best() {
        TwoKeys x = new TwoKeys();
        x.chest(0, 0);
        x.chest(0, 0);
        x.lay(0, 3, 4);
        due("as it is", x.best(0, NONE), 0);
        due("as it is", x.best(0, 0), 9);
        due("nobody holds it: the first", x.best(0, 1), 0);
        x.speak(3, 4, 0);
        due("one key moves", x.best(0, NONE), 1);
        due("the first of those", x.best(0, 0), 3);
        due("largest", x.best(1, NONE), 18);
        due("the first of largest", x.best(1, 0), 0);
        for (int p = 0; p < 4; p++) x.speak(p, p + 1, 0);
        due("a row of five", x.best(1, NONE), 10);
        due("the two at the ends", x.best(1, 0), 6);
        due("the two at the ends", x.best(1, 1), 6);
        x.set(1, 0, 1);
        due("each but one key", x.best(1, NONE), 8);
        due("the first row of like ones", x.best(1, 0), 3);
        due("the first row of like ones", x.best(1, 1), 7);
        due("one key moves, yet", x.best(0, NONE), 1);
        x.lay(1, 2, 3);
        due("moved", x.best(0, NONE), 2);
        due("of like ones the first row", x.best(0, 0) * 100 + x.best(0, 1), 308);
        x.people(2);
        x.speak(0, 1, 0);
        due("no layings", x.best(0, NONE), STATE);
        due("no layings", x.best(1, 0), STATE);
        due("bad is ahead of state", x.best(2, 0), BAD);
        due("bad is ahead of state", x.best(0, 2), BAD);
        int[][] bad = {{-1, 0}, {2, 0}, {0, 2}, {0, -2}, {LEAST, 0}, {0, LEAST}, {1, GREATEST}};
        for (int[] b : bad) refused("best", y -> y.best(b[0], b[1]), BAD);
    }

    private static void move() {
        TwoKeys x = new TwoKeys();
        x.chest(0, 0);
        x.chest(0, 0);
        x.lay(0, 3, 4);
        x.speak(3, 4, 0);
        due("move", x.move(), 1);
        due("chest 0", x.chestTold(0, 4), 3);
        due("chest 1", x.chestTold(1, 4), 0);
        due("lawful", x.lawful(0), 1);
        due("keys", x.lawful(2), 2);
        due("again", x.move(), 0);
        due("chest 0", x.chestTold(0, 4), 3);
        TwoKeys y = lived();
        y.people(2);
        y.speak(0, 1, 0);
        y.lay(0, 0, 1);
        String before = whole(y);
        due("no layings", y.move(), STATE);
        Check.holds("move changes nothing", before.equals(whole(y)));
        // both keys move if nobody of the two may hold one
        TwoKeys z = ruled("may 1<one;costs 1;fears 1;");
        z.chest(0, 0);
        z.lay(0, 0, 1);
        due("two keys", z.move(), 2);
        due("pair", z.chestTold(0, 4), 5);
    }

    private static void quarrel() {
        TwoKeys x = ruled("may 1;costs 50-one-other*10+chest+far;fears 1;");
        x.people(4);
        x.chest(0, 0);
        for (int b = 1; b < 4; b++) for (int a = 0; a < b; a++) x.speak(a, b, 2);
        due("there are layings", x.quarrel(0), NONE);
        due("there are layings", x.quarrel(1), NONE);
        x.set(0, 0, 2);
        due("the cheapest", x.quarrel(0), 5);
        due("its costs, they speaking", x.quarrel(1), 18);
        Check.holds("nothing has changed", x.told(2, 3, 0) == 2 && x.lawful(1) == 0);
        x.chest(0, 0);
        x.set(1, 0, 1);
        due("one quarrel is too little", x.quarrel(0), NONE);
        due("one quarrel is too little", x.quarrel(1), NONE);
        x.set(1, 0, 2);
        due("two chests on a pair", x.quarrel(0), 5);
        due("bad", x.quarrel(2), BAD);
        TwoKeys like = new TwoKeys();
        like.people(3);
        like.chest(1, 1);
        for (int b = 1; b < 3; b++) for (int a = 0; a < b; a++) like.speak(a, b, 0);
        due("not on 1: of like ones the first that helps", like.quarrel(0), 1);
        due("costs", like.quarrel(1), 1);
        TwoKeys bound = ruled("may 1;costs 0-one;fears 1;");
        bound.people(3);
        bound.chest(0, 0);
        for (int b = 1; b < 3; b++) for (int a = 0; a < b; a++) bound.speak(a, b, 0);
        due("all cost 0: the first", bound.quarrel(0), 0);
        due("bounded", bound.quarrel(1), 0);
        TwoKeys dear = ruled("may 1;costs 500;fears 1;");
        dear.people(2);
        dear.chest(0, 0);
        dear.speak(0, 1, 0);
        due("dear", dear.quarrel(0), 0);
        due("bounded", dear.quarrel(1), 99);
        // far is told in the may of the town that would be
        TwoKeys far = ruled("may far=1;costs 1;fears 1;");
        far.people(3);
        far.chest(0, 0);
        for (int b = 1; b < 3; b++) for (int a = 0; a < b; a++) far.speak(a, b, 0);
        due("one would go between them", far.quarrel(0), 0);
        for (int b : new int[] {-1, 2, LEAST, GREATEST}) refused("quarrel " + b, y -> y.quarrel(b), BAD);
    }

    private static void peace() {
        TwoKeys x = new TwoKeys();
        x.chest(0, 0);
        x.chest(0, 0);
        x.chest(0, 0);
        due("no harm: the first", x.peace(0), 0);
        due("no harm", x.peace(1), 0);
        x.lay(0, 1, 2);
        x.lay(1, 3, 4);
        x.lay(2, 3, 4);
        due("most harm", x.peace(0), 9);
        due("most harm", x.peace(1), 2);
        x.lay(2, 0, 4);
        due("of like ones the first", x.peace(0), 2);
        due("of like ones the first", x.peace(1), 1);
        x.speak(1, 2, 0);
        due("one is held so already", x.peace(0), 6);
        due("one is held so already", x.peace(1), 2);
        Check.holds("nothing has changed", x.told(0, 4, 0) == 13);
        x.people(2);
        x.speak(0, 1, 3);
        x.lay(0, 0, 1);
        due("they don't speak yet", x.peace(0), 0);
        due("they don't speak yet", x.peace(1), 1);
        x.set(0, 0, 3);
        due("all speak", x.peace(0), NONE);
        due("all speak: no such pair", x.peace(1), 0);
        for (int b : new int[] {-1, 2, LEAST, GREATEST}) refused("peace " + b, y -> y.peace(b), BAD);
    }

    private static void in() {
        TwoKeys x = new TwoKeys();
        x.chest(0, 0);
        x.chest(0, 0);
        x.chest(0, 0);
        x.lay(0, 0, 1);
        x.lay(1, 1, 2);
        x.speak(0, 1, 4);
        x.speak(1, 2, 12);
        due("in", x.in(0), 0);
        due("in", x.in(3), 0);
        due("in", x.in(4), 1);
        due("in", x.in(12), 2);
        due("month stays", x.count(2), 0);
        due("they don't speak now", x.told(0, 1, 1), 9);
        x.set(0, 0, 12);
        due("earlier, too", x.in(0), 0);
        TwoKeys y = ruled("may month<5 or month=7;costs 1;fears 1;");
        y.chest(0, 0);
        y.lay(0, 0, 1);
        due("texts know the month", y.in(4) * 1000 + y.in(5) * 100 + y.in(7) * 10 + y.in(12), 101);
        TwoKeys far = ruled("may far=9;costs 1;fears 1;");
        far.chest(0, 0);
        far.lay(0, 0, 2);
        far.speak(0, 1, 3);
        far.speak(1, 2, 6);
        due("ways are told by that month", far.in(5) * 10 + far.in(6), 1);
        for (int b : new int[] {-1, 13, LEAST, GREATEST}) refused("in " + b, z -> z.in(b), BAD);
    }

    private static void first() {
        TwoKeys x = new TwoKeys();
        x.chest(0, 0);
        x.speak(0, 1, 12);
        due("nobody holds", x.first(), NONE);
        x.lay(0, 0, 1);
        due("the last month", x.first(), 12);
        x.speak(0, 1, 4);
        due("first", x.first(), 4);
        x.set(0, 0, 4);
        due("now", x.first(), 4);
        x.set(0, 0, 9);
        due("from now on", x.first(), 9);
        x.speak(0, 1, 13);
        due("never", x.first(), NONE);
        TwoKeys y = ruled("may not month=3;costs 1;fears 1;");
        y.chest(0, 0);
        y.lay(0, 0, 1);
        due("first", y.first(), 3);
        y.set(0, 0, 4);
        due("it is over", y.first(), NONE);
    }

    private static void worth() {
        TwoKeys x = new TwoKeys();
        due("nothing", x.worth(0), 0);
        due("nothing", x.worth(1), 0);
        x.chest(0, 500);
        x.chest(1, 203);
        x.chest(3, 109);
        x.lay(0, 0, 1);
        x.lay(1, 1, 2);
        due("worths", x.worth(1), 73);
        due("fears", x.worth(0), 0);
        x.speak(0, 1, 0);
        due("less what is held so", x.worth(1), 23 - 50);
        due("fears 9 less far", x.worth(0), 9);
        x.speak(0, 2, 0);
        due("far 1", x.worth(0), 17);
        x.lay(2, 3, 4);
        x.set(0, 0, 6);
        due("by the month", x.worth(1), 23 - 50 + 25);
        for (int b : new int[] {-1, 2, LEAST, GREATEST}) refused("worth " + b, y -> y.worth(b), -100000);
    }

    private static void opened() {
        TwoKeys x = new TwoKeys();
        x.people(6);
        x.chest(0, 0);
        x.chest(0, 0);
        x.chest(0, 0);
        x.lay(0, 0, 2);
        x.lay(1, 3, 5);
        for (int p = 0; p < 5; p++) x.speak(p, p + 1, p < 2 ? 0 : 3);
        due("all", x.opened(63), 1);
        due("by the three", x.opened(7), 1);
        due("one on the way is none of them", x.opened(63 - 2), 0);
        due("one who holds is none of them", x.opened(6), 0);
        due("nobody", x.opened(0), 0);
        x.set(0, 0, 3);
        due("all", x.opened(63), 3);
        due("the later three", x.opened(56), 2);
        x.speak(0, 2, 0);
        due("two alone", x.opened(5), 1);
        for (int b : new int[] {-1, 32, LEAST, GREATEST}) refused("opened " + b, y -> y.opened(b), BAD);
        due("64", x.opened(64), BAD);
    }

    private static void band() {
        TwoKeys x = new TwoKeys();
        x.chest(0, 0);
        x.chest(0, 0);
        x.lay(0, 0, 3);
        x.speak(0, 1, 0);
        x.speak(1, 3, 0);
        x.speak(0, 2, 0);
        x.speak(2, 3, 0);
        due("of like ones the least", x.band(1, 0), 11);
        due("how many", x.band(1, 1), 3);
        due("must: those who hold", x.band(1, 2), 9);
        due("none of the chests", x.band(0, 0), 0);
        due("none of the chests", x.band(0, 1), 0);
        due("none of the chests", x.band(0, 2), 0);
        due("nobody holds it", x.band(2, 0), NONE);
        due("nobody holds it", x.band(3, 1), NONE);
        due("nobody holds it", x.band(3, 2), 0);
        x.lay(1, 2, 4);
        due("no way", x.band(2, 0), NONE);
        due("no way", x.band(2, 2), 0);
        x.speak(3, 4, 0);
        due("the fewest for both", x.band(3, 0), 29);
        due("how many", x.band(3, 1), 4);
        due("must", x.band(3, 2), 29);
        due("must for one", x.band(2, 2), 4 + 8 + 16);
        x.speak(1, 3, 13);
        due("only one way", x.band(1, 2), 13);
        int[][] bad = {{4, 0}, {-1, 0}, {0, 3}, {0, -1}, {LEAST, 0}, {GREATEST, 0}, {0, LEAST}, {0, GREATEST}};
        for (int[] b : bad) refused("band", y -> y.band(b[0], b[1]), BAD);
    }

    private static void fill(TwoKeys x, int sheet, int sort, int... items) {
        x.sheet(sheet, sort, items.length);
        for (int i = 0; i < items.length; i++) x.cell(sheet, i, items[i]);
    }

    private static void judge() {
        TwoKeys x = new TwoKeys();
        x.chest(0, 0);
        x.chest(0, 0);
        x.set(1, 0, 1);
        for (int sort = 0; sort < 3; sort++) {
            fill(x, 0, sort, 0, 0, 1, 5, 0, 6);
            due("good", x.judge(0), NONE);
            fill(x, 0, sort, 0, 0, 1, 5, 0, 7, 0, 3);
            due("3 holds two", x.judge(0), 3);
            fill(x, 0, sort, 0, 0, 1, 1);
            due("0 holds two", x.judge(0), 1);
            fill(x, 0, sort, 0, 0, 2, 1);
            due("no such chest", x.judge(0), 1);
            fill(x, 0, sort, 0, 0, 1, 9, 1, 10);
            due("no such pair", x.judge(0), 2);
            fill(x, 0, sort, -1, 0);
            due("no such chest", x.judge(0), 0);
            fill(x, 0, sort, 0, -1);
            due("nobody is no pair", x.judge(0), 0);
        }
        due("the laying stays", x.chestTold(0, 4), NONE);
        x.speak(0, 1, 0);
        fill(x, 0, 0, 0, 0);
        due("that they speak does not matter", x.judge(0), NONE);
        x.lay(0, 0, 1);
        x.lay(1, 0, 1);
        fill(x, 0, 0, 1, 3);
        due("from the laying on", x.judge(0), 0);
        fill(x, 0, 0, 1, 5);
        due("from the laying on", x.judge(0), NONE);
        fill(x, 0, 0);
        due("no rows: nothing is behind one", x.judge(0), NONE);
        fill(x, 0, 0, 0);
        due("odd", x.judge(0), BAD);
        due("missing", x.judge(1), -11);
        for (int b : new int[] {-1, 4, LEAST, GREATEST}) refused("judge " + b, y -> y.judge(b), BAD);
    }

    private static void place() {
        TwoKeys x = new TwoKeys();
        x.people(3);
        x.chest(0, 0);
        x.chest(0, 0);
        int at = 0;
        for (int a = 0; a < 3; a++) {
            for (int b = 0; b < 3; b++) {
                fill(x, 2, at % 3, a, b);
                due("place", x.place(2), at);
                at++;
            }
        }
        x.speak(0, 2, 0);
        fill(x, 2, 0, 2, 2);
        due("two pairs", x.place(2), 3);
        fill(x, 2, 0, 2, 1);
        due("they speak", x.place(2), NONE);
        x.speak(0, 2, 13);
        x.set(1, 0, 1);
        fill(x, 2, 0, 2, 1);
        due("somebody has two", x.place(2), NONE);
        fill(x, 2, 2, 0, 3);
        due("no such pair", x.place(2), NONE);
        fill(x, 2, 2, -1, 0);
        due("no such pair", x.place(2), NONE);
        fill(x, 2, 2, GREATEST, LEAST);
        due("no such pair", x.place(2), NONE);
        fill(x, 2, 2, 32, 33);
        due("no such pair, though its lowest bits are one's", x.place(2), NONE);
        fill(x, 2, 0, 0);
        due("size", x.place(2), BAD);
        fill(x, 2, 0, 0, 0, 0);
        due("size", x.place(2), BAD);
        due("missing", x.place(0), -11);
        for (int b : new int[] {-1, 4, LEAST, GREATEST}) refused("place " + b, y -> y.place(b), BAD);
        TwoKeys y = new TwoKeys();
        y.people(6);
        for (int c = 0; c < 4; c++) y.chest(0, 0);
        fill(y, 0, 0, 14, 14, 14, 14);
        due("the last of all", y.place(0), 50624);
        y.set(1, 0, 3);
        due("four are too many", y.place(0), NONE);
        fill(y, 0, 0, 14, 14, 14, 5);
        due("the last", y.place(0), y.lawful(1) - 1);
    }

    private static void drawn() {
        TwoKeys x = new TwoKeys();
        x.people(2);
        x.chest(0, 0);
        // z is 12345, 12345 >>> 9 is 24, 24 % 14 is 10
        x.set(0, 0, 9);
        due("not yet", x.drawn(0), 1);
        x.set(0, 0, 10);
        due("they speak", x.drawn(0), 0);
        due("nothing has changed", x.told(0, 1, 0), 13);
        // z is 12345 - 1103515245 = -1103502900, >>> 9 is 6233328, % 14 is 4
        x.set(0, 0, 3);
        due("a seed below 0", x.drawn(-1), (((12345 - 1103515245) >>> 9) % 14) > 3 ? 1 : 0);
        x.people(3);
        x.chest(0, 0);
        int z = 77;
        int free = 0;
        for (int pair = 0; pair < 3; pair++) {
            z = z * 1103515245 + 12345;
            if ((z >>> 9) % 14 > 3) free++;
        }
        due("each pair", x.drawn(77), free * free);
        TwoKeys far = ruled("may far=9;costs 1;fears 1;");
        far.people(3);
        far.chest(0, 0);
        far.set(0, 0, 12);
        int ways = 0;
        for (int seed = 0; seed < 40; seed++) ways += far.drawn(seed) == 0 ? 1 : 0;
        Check.holds("ways are drawn, too", ways > 30);
        due("any seed", x.drawn(LEAST) >= 0 && x.drawn(GREATEST) >= 0 ? 1 : 0, 1);
    }

    private static void chance() {
        TwoKeys x = new TwoKeys();
        x.people(2);
        x.chest(0, 0);
        x.set(0, 0, 6);
        for (int seed : new int[] {0, 5, -3, GREATEST - 2, LEAST}) {
            for (int many = 1; many <= 8; many++) {
                int lucky = 0;
                for (int i = 0; i < many; i++) if (x.drawn(seed + i) > 0) lucky++;
                long above = x.chance(seed, many, 0);
                long below = x.chance(seed, many, 1);
                due("chance", above * many, below * lucky);
                for (int d = 2; d <= 8; d++) Check.holds("lowest terms", above % d != 0 || below % d != 0);
                Check.holds("above 0", below > 0 && below <= many);
            }
        }
        x.set(0, 0, 12);
        x.chest(1, 1);
        due("none: 0 of 1", x.chance(0, 6, 0), 0);
        due("none: 0 of 1", x.chance(0, 6, 1), 1);
        int[][] bad = {{0, 0, 0}, {0, 9, 0}, {0, 1, 2}, {0, 1, -1}, {0, -1, 0}, {0, LEAST, 0}, {0, GREATEST, 0}};
        for (int[] b : bad) refused("chance", y -> y.chance(b[0], b[1], b[2]), NO);
    }

    private static void image() {
        TwoKeys x = new TwoKeys();
        due("image", x.image(), 5);
        x.people(3);
        due("image", x.image(), 3);
        x.people(6);
        due("the later one", x.back(), 3);
        due("people", x.count(0), 3);
    }

    private static void back() {
        TwoKeys x = lived();
        due("none", x.back(), STATE);
        feed(x, "costs 1;fears 1;");
        x.text();
        x.force(1);
        x.image();
        String before = whole(x);
        x.force(0);
        x.set(0, 0, 7);
        x.set(1, 0, 2);
        x.speak(0, 1, 0);
        x.lay(0, 3, 4);
        x.lay(1, 1, 2);
        x.chest(0, 0);
        x.lay(2, 0, 1);
        x.people(6);
        due("back", x.back(), 5);
        Check.holds("all that it keeps", before.equals(whole(x)));
        due("keys", x.lawful(2), 1);
        due("the chest is gone", x.lay(2, 0, 1), BAD);
        x.set(2, 0, 8);
        x.set(3, 1, 77);
        due("back again", x.back(), 5);
        due("numbers are none of it", x.chestTold(0, 1), 8);
        due("nor is gold", x.chestTold(1, 2), 77);
        due("a chest anew", x.chest(3, 12), 2);
        due("of its own kind", x.chestTold(2, 0), 3);
        due("held by nobody", x.chestTold(2, 4), NONE);
        feed(x, "may 2;costs 2;fears 2;");
        x.feed(32);
        x.text();
        x.feed(32);
        x.sheet(3, 0, 4);
        x.back();
        due("texts stay", x.count(4), 3);
        due("the tape stays", x.count(5), 1);
        due("sheets stay", x.cell(3, 3, 1), 1);
        x.set(0, 0, 3);
        due("ways are told anew", x.told(0, 1, 1), 0);
        x.back();
        due("ways are told anew", x.told(0, 1, 1), 9);
    }

    private static void count() {
        TwoKeys x = lived();
        int[] want = {5, 2, 2, 4, 1, 6, 0, 1};
        for (int what = 0; what < 8; what++) due("count " + what, x.count(what), want[what]);
        x.set(0, 0, 3);
        due("pairs that speak", x.count(7), 2);
        for (int b : new int[] {-1, 8, LEAST, GREATEST}) refused("count " + b, y -> y.count(b), BAD);
    }

    private static void sheet() {
        TwoKeys x = new TwoKeys();
        due("sheet", x.sheet(3, 2, 40), 1);
        due("the last item", x.cell(3, 39, 1), 1);
        due("behind it", x.cell(3, 40, 1), -12);
        due("sheet", x.sheet(3, 0, 0), 1);
        due("nothing in it", x.cell(3, 0, 1), -12);
        due("missing", x.sheet(3, -1, GREATEST), 1);
        due("missing", x.cell(3, 0, 1), -11);
        due("missing", x.sheet(3, -1, LEAST), 1);
        fill(x, 1, 1, 0, 1, 5);
        due("speaks", x.speaks(1, 1, 0, 1), 1);
        x.sheet(1, 1, 3);
        due("all 0: nobody and himself", x.speaks(1, 1, 0, 1), 0);
        x.chest(0, 0);
        fill(x, 1, 0, 9);
        due("a row of one", x.place(1), 9);
        x.sheet(1, 0, 1);
        due("all 0", x.place(1), 0);
        int[][] bad = {{-1, 0, 0}, {4, 0, 0}, {0, 3, 0}, {0, -2, 0}, {0, 0, 41}, {0, 0, GREATEST}, {4, 0, -1}, {0, 3, -1},
            {LEAST, 0, 0}, {4, -1, 0}};
        for (int[] b : bad) refused("sheet", y -> y.sheet(b[0], b[1], b[2]), BAD);
        refused("sheet below 0", y -> y.sheet(0, 0, -1), -14);
        refused("sheet below 0", y -> y.sheet(0, 2, LEAST), -14);
    }

    private static void cell() {
        TwoKeys x = new TwoKeys();
        fill(x, 0, 0, 256, 65537, 13 + 512);
        due("the lowest 8 bits", x.speaks(0, 0, 0, 1), 1);
        due("they are 0, 1, 13", x.told(0, 1, 0), 13);
        fill(x, 0, 1, 65536, 65537, 12 + 65536 * 3);
        due("the lowest 16 bits", x.speaks(0, 1, 0, 1), 1);
        due("they are 0, 1, 12", x.told(0, 1, 0), 12);
        fill(x, 0, 1, 256, 1, 0);
        due("a short keeps 256", x.speaks(0, 1, 0, 1), 0);
        fill(x, 0, 2, 65536, 1, 0);
        due("an int keeps 65536", x.speaks(0, 2, 0, 1), 0);
        int[][] all = {{-1, 0, BAD}, {4, 0, BAD}, {2, 0, -11}, {2, -1, -11}, {0, -1, -12}, {0, 2, -12}, {0, LEAST, -12},
            {0, GREATEST, -12}, {GREATEST, 0, BAD}};
        for (int[] b : all) refused("cell", y -> y.cell(b[0], b[1], 1), b[2]);
    }

    private static void copy() {
        TwoKeys x = new TwoKeys();
        fill(x, 0, 2, 0, 1, 2, 3, 4, 5);
        due("over itself, to the right", x.copy(0, 0, 0, 1, 5), 5);
        due("0 0 1 2 3 4: 0, 0 and 2, 3 from 4", x.speaks(0, 2, 0, 2), 1);
        due("as they were", x.told(2, 3, 0), 4);
        fill(x, 0, 2, 0, 1, 2, 3, 4, 5);
        due("over itself, to the left", x.copy(0, 1, 0, 0, 5), 5);
        due("1 2 3 4 5 5", x.speaks(0, 2, 0, 1), 1);
        due("as they were", x.told(1, 2, 0), 3);
        fill(x, 1, 2, 0, 0, 0);
        fill(x, 0, 2, 9, 3, 4, 7);
        due("to another", x.copy(0, 1, 1, 0, 3), 3);
        due("there it is", x.speaks(1, 2, 0, 1), 1);
        due("there it is", x.told(3, 4, 0), 7);
        due("none, at the ends", x.copy(0, 4, 1, 3, 0), 0);
        due("behind the end", x.copy(0, 5, 1, 0, 0), -12);
        due("too many", x.copy(0, 0, 1, 0, 4), -12);
        due("too many", x.copy(0, 2, 1, 0, 3), -12);
        fill(x, 2, 1, 0, 0, 0);
        due("unlike, ahead of outside", x.copy(0, 9, 2, 9, -1), -13);
        due("missing, ahead of unlike", x.copy(3, 9, 2, 9, -1), -11);
        due("missing", x.copy(2, 0, 3, 0, 0), -11);
        due("no such sheet, ahead of missing", x.copy(3, 0, 4, 0, 0), BAD);
        int[][] all = {{0, 0, 0, 0, -1, -12}, {0, -1, 0, 0, 1, -12}, {0, 0, 0, -1, 1, -12}, {0, 1, 0, 0, GREATEST, -12},
            {0, GREATEST, 0, 0, 1, -12}, {0, 0, 0, GREATEST, GREATEST, -12}, {0, LEAST, 0, 0, LEAST, -12}, {0, 0, 1, 0, 1, -13},
            {-1, 0, 0, 0, 0, BAD}, {0, 0, -1, 0, 0, BAD}, {4, 0, 0, 0, 0, BAD}, {0, 0, 4, 0, 0, BAD}, {2, 0, 0, 0, 0, -11}};
        for (int[] b : all) refused("copy", y -> y.copy(b[0], b[1], b[2], b[3], b[4]), b[5]);
    }

    private static void speaks() {
        TwoKeys x = new TwoKeys();
        fill(x, 0, 0, 9, 0, 1, 2, 3, 3, 0, 4, 3, 13, 2, 0, 12, 4);
        due("from 1 on, three of them", x.speaks(0, 0, 1, 4), 3);
        due("0, 1", x.told(0, 1, 0), 2);
        due("2, 0", x.told(0, 2, 0), 12);
        due("they count, though nothing changed", x.speaks(0, 0, 1, 4), 3);
        due("ways are told anew", x.set(0, 0, 2) + x.told(0, 1, 1), 0);
        x.speak(0, 1, 13);
        due("outside: the last one is not whole", x.speaks(0, 0, 1, 5), -12);
        due("what stood ahead became so", x.told(0, 1, 0), 2);
        due("none of them", x.speaks(0, 0, 0, 0), 0);
        due("outside", x.speaks(0, 0, 12, 1), -12);
        due("outside", x.speaks(0, 0, -1, 1), -12);
        due("outside", x.speaks(0, 0, GREATEST, 13), -12);
        due("outside", x.speaks(0, 0, LEAST, 13), -12);
        due("the last whole one", x.speaks(0, 0, 11, 1), 0);
        x.sheet(1, 2, 39);
        due("thirteen", x.speaks(1, 2, 0, 13), 0);
        due("missing", x.speaks(2, 0, 0, 0), -11);
        due("unlike, ahead of outside", x.speaks(1, 1, 99, 1), -13);
        due("unlike, though none is asked", x.speaks(1, 1, 0, 0), -13);
        int[][] bad = {{-1, 0, 0, 0}, {4, 0, 0, 0}, {0, -1, 0, 0}, {0, 3, 0, 0}, {0, 0, 0, -1}, {0, 0, 0, 14}, {2, 3, 0, 0},
            {2, 0, 0, 14}, {0, 1, 0, 14}, {LEAST, 0, 0, 0}, {0, 0, 0, GREATEST}};
        for (int[] b : bad) refused("speaks", y -> y.speaks(b[0], b[1], b[2], b[3]), BAD);
    }

    private static void taken() {
        // which kinds are under k, or k: 0 of all, 1 of PROUD, WEDDED, STRICT, 2 of OPEN, DEEP
        String[] under = {"111111", "010101", "001010", "000100", "000010", "000001"};
        for (int kind = 0; kind < 6; kind++) {
            TwoKeys x = new TwoKeys();
            x.chest(kind, 7);
            for (int k = 0; k < 6; k++) due("taken " + kind + ", " + k, x.taken(0, k), under[k].charAt(kind) == '1' ? 7 : -13);
        }
        int[][] all = {{0, -1, BAD}, {0, 6, BAD}, {2, 6, BAD}, {2, 0, -11}, {-1, 0, -11}, {0, 2, -13}, {0, LEAST, BAD},
            {GREATEST, 0, -11}, {LEAST, 5, -11}};
        for (int[] b : all) refused("taken", y -> y.taken(b[0], b[1]), b[2]);
    }
}
