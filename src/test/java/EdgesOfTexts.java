/** Promises 8 to 10, and the terms of texts. */
final class EdgesOfTexts extends Edge {
    private static final String REST = ";costs 1;fears 1;";
    private static final String[] NAMES = {"one", "other", "keys", "month", "far", "chest"};
    private static final String[] KEYS = {"may", "costs", "fears", "or", "and", "not"};
    /** 2 to the 31, which is the least int, and one less, which is the greatest. */
    private static final String LEAST_INT = "256*256*256*128", GREATEST_INT = "(256*256*256*128-1)";

    static void run() {
        tape();
        tokens();
        blanks();
        partsOfText();
        grammar();
        words();
        values();
        faults();
        unknownWords();
        longNumbers();
        openOnes();
        sixTexts();
        names();
        partsTold();
        firstText();
        feed();
        text();
        force();
    }

    private static int fresh(String s) {
        TwoKeys x = new TwoKeys();
        int answer = read(x, s);
        due("the tape is empty behind " + s, x.count(5), 0);
        due("texts behind " + s, x.count(4), answer < 0 ? 1 : 2);
        return answer;
    }

    private static void good(String s) {
        due(s, fresh(s), 1);
    }

    private static void fault(String s, int place) {
        due(s, fresh(s), -100 - place);
    }

    /** The fears for chest 0, which 0 and 1 hold, by this expression. */
    private static int fears(String e) {
        TwoKeys x = made(ruled("may 1;costs 1;fears " + e + ";").then(plain(2, 1)));
        x.lay(0, 0, 1);
        return x.worth(0);
    }

    private static void tells(String e, int want) {
        due("fears " + e, fears(e), want);
    }

    private static void tape() {
        Doc.says("A TEXT is read from THE TAPE (160 bytes at most).");
        String text = "may 1;costs 1;fears 1";
        String blanks = " ".repeat(160 - text.length() - 1);
        good(text + blanks + ";");
        good(blanks + text + ";");
        fault(text + blanks + " ", 160);
        fault(text + blanks + "?", 159);
        String cut = "may 1;costs 1;fears";
        fault(cut + " ".repeat(159 - cut.length()) + "1", 160);
        fault(cut + " ".repeat(156 - cut.length()) + "1234", 160);
        fault(cut + " ".repeat(155 - cut.length()) + "12345", 155);
        fault(cut + " ".repeat(157 - cut.length()) + "one", 160);
        fault(cut + " ".repeat(159 - cut.length()) + "x", 159);
        TwoKeys x = made(FULL_TAPE);
        due("full", x.feed(';'), FULL);
        due("160 bytes are read", x.text(), 1);
        due("there is room again", x.feed(';'), 1);
        String sum = "may 1;costs 1;fears 1" + "+1".repeat(69) + ";";
        due("as many tokens as can be", sum.length(), 160);
        TwoKeys y = made(ruled(sum).then(plain(2, 1)));
        y.lay(0, 0, 1);
        due("70 ones", y.worth(0), 70);
    }

    private static void tokens() {
        Doc.says("TOKENS, each as long as can be: WORDS (a .. z), NUMBERS (as many digits as stand there, 4 at most), "
            + "SIGNS ( ) ; + - * < = ;");
        // each byte behind "may 1", ahead of a ;
        for (int c = 0; c < 256; c++) {
            String s = "may 1" + (char) c + REST;
            if (c >= '0' && c <= '9' || c == ' ' || c == '\n') good(s);
            else fault(s, "+-*<=;".indexOf((char) c) >= 0 ? 6 : 5);
        }
        // each byte ahead of all
        for (int c = 0; c < 256; c++) {
            String s = (char) c + "may 1" + REST;
            if (c == ' ' || c == '\n') good(s);
            else fault(s, 0);
        }
        // each byte where a ONE is due
        for (int c = 0; c < 256; c++) {
            String s = "may " + (char) c + REST;
            if (c >= '0' && c <= '9') good(s);
            else if (c == ' ' || c == '\n' || c == '(' || c == '-') fault(s, 5);
            else fault(s, 4);
        }
        fault("mayone" + REST, 0);
        fault("may oneone" + REST, 4);
        fault("may 1 orone" + REST, 6);
        fault("may notone" + REST, 4);
        good("may1or2and(3)or-4<5*one" + REST);
        good("may 1or one" + REST);
        fault("may 1 2" + REST, 6);
        fault("may one other" + REST, 8);
        fault("may 1one" + REST, 5);
        good("may 1and one" + REST);
    }

    private static void blanks() {
        Doc.says("blanks (32, 10) may stand between.");
        good(" \n may \n 1 \n ; \n costs\n\n1  ; fears ( \n 1 ) ; \n ");
        good("may 1;costs 1;fears 1;");
        good("may 1;costs 1;fears 1; ");
        good("may 1;costs 1;fears 1;\n");
        fault("m ay 1" + REST, 0);
        fault("may o ne" + REST, 4);
        fault("may 1 1" + REST, 6);
        for (int c : new int[] {0, 9, 11, 12, 13, 31, 33, 127, 160, 255}) fault("may" + (char) c + "1" + REST, 3);
    }

    private static void partsOfText() {
        Doc.says("TEXT: may E ; costs E ; fears E ;");
        good("may 1;costs 2;fears 3;");
        fault("costs 1;fears 1;may 1;", 0);
        fault("may 1;fears 1;costs 1;", 6);
        fault("may 1;may 1;fears 1;", 6);
        fault("may 1;costs 1;costs 1;", 14);
        fault("may 1;costs 1;may 1;", 14);
        fault("may 1;costs 1;fears 1;may 1;", 22);
        fault("may 1;costs 1;fears 1;fears 1;", 22);
        fault("may 1;costs 1;fears 1;;", 22);
        fault("may 1 costs 1;fears 1;", 6);
        fault("may;costs 1;fears 1;", 3);
        fault("may 1;costs;fears 1;", 11);
        fault("may 1;costs 1;fears;", 19);
        fault(";may 1;costs 1;fears 1;", 0);
        fault("may 1;;costs 1;fears 1;", 6);
        fault("1;costs 1;fears 1;", 0);
        // a KEY of one sort where one of another is due
        for (String key : KEYS) {
            if (!key.equals("or") && !key.equals("and")) fault("may 1 " + key + " 1" + REST, 6);
            if (!key.equals("may")) fault(key + " 1" + REST, 0);
            if (!key.equals("costs")) fault("may 1;" + key + " 1;fears 1;", 6);
            if (!key.equals("fears")) fault("may 1;costs 1;" + key + " 1;", 14);
            if (!key.equals("not")) fault("may " + key + " 1" + REST, 4);
        }
    }

    private static void grammar() {
        Doc.says("E: AND { or AND }.");
        good("may 1 or 0 or 1 or 1" + REST);
        fault("may or 1" + REST, 4);
        fault("may 1 or or 1" + REST, 9);
        fault("may 1 or" + REST, 8);
        fault("may 1 or and 1" + REST, 9);
        tells("1 or 0 and 0", 1);
        tells("0 and 0 or 1", 1);
        Doc.says("AND: NOT { and NOT }.");
        good("may 1 and 0 and not 1 and 1" + REST);
        fault("may and 1" + REST, 4);
        fault("may 1 and and 1" + REST, 10);
        fault("may 1 and" + REST, 9);
        tells("not 1 and 0", 0);
        tells("not 0 and 5", 1);
        Doc.says("NOT: not NOT, or SUM, perhaps < or = and a SUM.");
        good("may not not 1<2" + REST);
        good("may 1+1=2*1" + REST);
        fault("may not" + REST, 7);
        fault("may 1<2<3" + REST, 7);
        fault("may 1=2=3" + REST, 7);
        fault("may 1<2=3" + REST, 7);
        fault("may 1=2<3" + REST, 7);
        fault("may 1<=2" + REST, 6);
        fault("may 1==2" + REST, 6);
        fault("may <2" + REST, 4);
        fault("may 1<" + REST, 6);
        fault("may 1=" + REST, 6);
        fault("may 1<not 2" + REST, 6);
        fault("may 1=not 2" + REST, 6);
        good("may 1<2 and 2=3 or not 3<4" + REST);
        good("may (1<2)<(2=3)" + REST);
        tells("not 1=2", 1);
        tells("not 0=0", 0);
        tells("1+1<3*1", 1);
        Doc.says("SUM: TERM { + or - TERM }.");
        good("may 1+2-3+4-5" + REST);
        fault("may 1+" + REST, 6);
        fault("may 1-" + REST, 6);
        fault("may +1" + REST, 4);
        fault("may 1++1" + REST, 6);
        fault("may 1-+1" + REST, 6);
        fault("may 1+not 1" + REST, 6);
        tells("20-5-3", 12);
        tells("20-5+3", 18);
        tells("2+3*4", 14);
        Doc.says("TERM: ONE { * ONE }.");
        good("may 2*3*4" + REST);
        fault("may 2*" + REST, 6);
        fault("may *2" + REST, 4);
        fault("may 2**2" + REST, 6);
        fault("may 2*not 2" + REST, 6);
        fault("may 2*+2" + REST, 6);
        tells("2*3*4", 24);
        tells("2*3+4", 10);
        Doc.says("ONE: a NUMBER, a NAME, - ONE, ( E ).");
        good("may 2*-3*(1 or 0)*one" + REST);
        fault("may ()" + REST, 5);
        fault("may (1" + REST, 6);
        fault("may 1)" + REST, 5);
        fault("may (1))" + REST, 7);
        fault("may )" + REST, 4);
        fault("may -" + REST, 5);
        fault("may -not 1" + REST, 5);
        fault("may (1;)" + REST, 6);
        fault("may (1)(1)" + REST, 7);
        fault("may (1 1)" + REST, 7);
        tells("5--3", 8);
        tells("5- -3", 8);
        tells("-3*-4", 12);
        tells("-3+10", 7);
        tells("-(3+10)+20", 7);
        tells("--7", 7);
        tells("(0 or 7)*9", 9);
    }

    private static void words() {
        Doc.says("NAMES are one other keys month far chest; may, costs, fears, or, and, not are KEYS.");
        for (String name : NAMES) {
            good("may 1+" + name + REST);
            fault("may 1 " + name + REST, 6);
            fault(name + " 1" + REST, 0);
        }
        for (String key : KEYS) {
            fault("may 1+" + key + REST, 6);
            fault("may 1+(" + key + ")" + REST, key.equals("not") ? 10 : 7);
        }
    }

    private static void values() {
        Doc.says("An E is an int (32 bits, wrapping): of or, and, not, <, = 1 or 0 (what is not 0 is true).");
        tells("3 or 0", 1);
        tells("0 or 3", 1);
        tells("3 or 5", 1);
        tells("0 or 0", 0);
        tells("3 and 5", 1);
        tells("3 and 0", 0);
        tells("0 and 3", 0);
        tells("0 and 0", 0);
        tells("-1 and -1", 1);
        tells("-1 or 0", 1);
        tells("not 7", 0);
        tells("not -1", 0);
        tells("not 0", 1);
        tells("1<2", 1);
        tells("2<2", 0);
        tells("3<2", 0);
        tells("-1<0", 1);
        tells("2=2", 1);
        tells("2=3", 0);
        tells("-0=0", 1);
        // each sum, product and turn that wraps around
        tells(LEAST_INT + "<0", 1);
        tells("0<" + GREATEST_INT, 1);
        tells(GREATEST_INT + "+1=" + LEAST_INT, 1);
        tells(LEAST_INT + "-1=" + GREATEST_INT, 1);
        tells("-(" + LEAST_INT + ")=" + LEAST_INT, 1);
        tells("-" + GREATEST_INT + "=" + LEAST_INT + "+1", 1);
        tells("256*256*256*256", 0);
        tells("256*256*256*256+1", 1);
        tells("256*256*256*256=0", 1);
        tells(LEAST_INT + "*2", 0);
        tells(LEAST_INT + "*3=" + LEAST_INT, 1);
        tells(GREATEST_INT + "*2+4", 2);
        tells(GREATEST_INT + "*" + GREATEST_INT, 1);
        tells(LEAST_INT + "+(" + LEAST_INT + ")", 0);
        tells("not 256*256*256*256", 1);
        // compared as they are, not by a difference that would wrap
        tells(LEAST_INT + "<" + GREATEST_INT, 1);
        tells(GREATEST_INT + "<" + LEAST_INT, 0);
        tells(LEAST_INT + "<1", 1);
        tells("1<" + LEAST_INT, 0);
        // 9999 to the third is 999700029999; of it the lowest 32 bits stay
        int cube = (int) (999700029999L % (1L << 32));
        tells("9999*9999*9999<0", cube < 0 ? 1 : 0);
        int low = cube & 8191, middle = cube >>> 13 & 8191, high = cube >>> 26;
        tells("9999*9999*9999=" + high + "*8192*8192+" + middle + "*8192+" + low, 1);
    }

    private static void faults() {
        Doc.says("FAULT: the place of the first byte of the first TOKEN that can't stand there "
            + "(the text's size, if it ends too early),");
        fault("", 0);
        fault(" ", 1);
        fault("\n\n\n", 3);
        String[] tokens = {"may", "(", "one", "+", "-", "12", ")", "<", "keys", "and", "not", "1", "or", "2", ";",
            "costs", "1", "=", "far", ";", "fears", "9", "*", "chest", ";"};
        StringBuilder s = new StringBuilder();
        for (String token : tokens) {
            fault(s.toString(), s.length());
            s.append(token);
            s.append(' ');
            if (!token.equals(";") || s.indexOf("fears") < 0) fault(s.toString(), s.length());
        }
        good(s.toString());
        // the first byte of a longer token, behind blanks
        fault("may 1 \n  costs 1" + REST, 9);
        fault("may 1 + \n fears" + REST, 10);
        fault("may 1;  month 1;fears 1;", 8);
        // the first one, if there are more
        fault("may ) ? xyz 12345", 4);
        fault("may 1 1 ?", 6);
        fault("may 1 ? )", 6);
        fault("may ((((( ) (" + REST, 10);
        fault("may 1;costs ;fears ;", 12);
        Doc.says("also of a byte that begins none,");
        for (int c = 0; c < 256; c++) {
            boolean begins = c >= 'a' && c <= 'z' || c >= '0' && c <= '9' || "();+-*<= \n".indexOf((char) c) >= 0;
            if (!begins) {
                fault("" + (char) c, 0);
                fault("may 1" + REST + " " + (char) c, 23);
                fault("may 1 +" + (char) c, 7);
            }
        }
    }

    private static void unknownWords() {
        Doc.says("a WORD that is neither KEY nor NAME,");
        for (String[] all : new String[][] {NAMES, KEYS}) {
            for (String word : all) {
                String shorter = word.substring(0, word.length() - 1);
                fault("may 1+" + shorter + REST, 6);
                fault("may 1+" + word.substring(1) + REST, 6);
                for (char c = 'a'; c <= 'z'; c++) {
                    fault("may 1+" + word + c + REST, 6);
                    fault("may 1+" + c + word + REST, 6);
                    String other = c + word.substring(1);
                    if (!other.equals(word)) fault("may 1 " + other + " 1" + REST, 6);
                    other = shorter + c;
                    if (!other.equals(word)) fault("may 1+" + other + REST, 6);
                }
                fault("may 1+" + word.toUpperCase(java.util.Locale.ROOT) + REST, 6);
            }
        }
        for (char c = 'a'; c <= 'z'; c++) fault("may 1+" + c + REST, 6);
        fault("may " + "z".repeat(150), 4);
        fault("x", 0);
    }

    private static void longNumbers() {
        Doc.says("a NUMBER that is too long,");
        for (String digits : new String[] {"0", "9", "00", "99", "000", "999", "0000", "9999", "1234"}) {
            good("may 1+" + digits + REST);
            tells(digits + "-1=" + Integer.parseInt(digits) + "-1", 1);
        }
        for (String digits : new String[] {"00000", "99999", "10000", "00001", "2147483648", "4294967297", "0".repeat(120)}) {
            fault("may 1+" + digits + REST, 6);
            fault("may 1 " + digits + REST, 6);
            fault("may 1+" + digits, 6);
        }
        tells("0012+0", 12);
        tells("9999=99*101", 1);
    }

    private static void openOnes() {
        Doc.says("a ( , a not, a - ahead of a ONE while 5 of these are open "
            + "(a ( till its ) , not and - till what they belong to ends).");
        // every row of ( not - that the grammar lets stand one behind the other, up to the sixth
        openFrom("", "", 0);
        // what has ended is open no more
        good("may " + "(1)+".repeat(6) + "1" + REST);
        good("may " + "-1+".repeat(6) + "1" + REST);
        good("may " + "not 1 or ".repeat(6) + "1" + REST);
        good("may " + "not 1 and ".repeat(6) + "1" + REST);
        good("may -----1*-----1+-----1--1" + REST);
        good("may (((((1)))))+(((((1)))))" + REST);
        good("may ((((1)+(1))+(1)))" + REST);
        fault("may (((((1)))+((((1))))))" + REST, 17);
        good("may (((((1)))+(((1)))))" + REST);
        good("may (((((1)))))" + ";costs (((((1)))));fears not not not not not 1;");
        good("may -----1;costs -----1;fears -----1;");
        // not is open till its comparison has ended, also behind < and =
        fault("may not not not not not 1<(1)" + REST, 26);
        fault("may not not not not not 1=-1" + REST, 26);
        fault("may not not not not not (1)" + REST, 24);
        fault("may not not not not not 1*-1" + REST, 26);
        fault("may not not not not not 1+(1)" + REST, 26);
        good("may not not not not not 1<1 or (1)" + REST);
        good("may not not not not not 1<1 and not not not not not 1" + REST);
        good("may not not not not 1<(1)+(1)*-1" + REST);
        // - is open till its ONE has ended
        good("may -----1<-----1" + REST);
        good("may ----(1)-(((((1)))))" + REST);
        fault("may ----((1))" + REST, 9);
        // a - between two TERMS is none of these
        good("may (((((1-1-1)))))" + REST);
        fault("may (((((1--1)))))" + REST, 11);
        fault("may (((((-1)))))" + REST, 9);
        // one that can't stand there is a fault at the same place, how many ever are open
        fault("may ((((( not 1" + REST, 10);
        fault("may ((((1+not 1", 10);
    }

    /** s ends where a NOT or (behind -) a ONE is due; closing ends what is open. */
    private static void openFrom(String s, String closing, int open) {
        good("may " + s + "1" + closing + REST);
        boolean behindMinus = s.endsWith("-");
        String[] more = behindMinus ? new String[] {"(", "-"} : new String[] {"(", "-", "not "};
        for (String next : more) {
            if (open < 5) openFrom(s + next, next.equals("(") ? ")" + closing : closing, open + 1);
            else fault("may " + s + next + "1" + REST, 4 + s.length());
        }
    }

    private static void sixTexts() {
        Doc.says("There are 6 TEXTS at most, TEXT 0 with them.");
        TwoKeys x = new TwoKeys();
        due("text 0", x.count(4), 1);
        for (int i = 1; i <= 5; i++) {
            due("text", read(x, "may " + i + REST), i);
            due("texts", x.count(4), i + 1);
        }
        due("full", read(x, PLAIN_TEXT), FULL);
        due("texts", x.count(4), 6);
        textsBehindOthers();
    }

    /** What was read ahead of a text, with a fault or without, is none of it. */
    private static void textsBehindOthers() {
        TwoKeys x = made(plain(3, 1));
        x.lay(0, 0, 1);
        due("a fault, five being open", read(x, "may (((((1"), -110);
        due("five may be open again", read(x, "may (((((1)))));costs 7;fears -----1+50;"), 1);
        due("a fault, with a whole part", read(x, "may 0;costs 0;fears"), -119);
        due("another", read(x, "may other<2;costs 8;fears 60;"), 2);
        due("another", read(x, "may not other<2;costs 9+month;fears 71;"), 3);
        due("digits of a longer tape", read(x, "may 1;costs 12345678"), -112);
        due("are none of a shorter one", read(x, "may 1;costs 1"), -113);
        due("letters of a longer tape", read(x, "may 1;costs onexyz"), -112);
        due("are none of a shorter one", read(x, "may 1;costs one"), -115);
        int[] fears = {0, 49, 60, 71};
        int[] mays = {7, 7, 1, 6};
        for (int text = 3; text >= 0; text--) {
            x.force(text);
            due("fears of text " + text, x.worth(0), fears[text]);
            due("may of text " + text, x.mayLay(0, 0) + 2 * x.mayLay(0, 1) + 4 * x.mayLay(0, 2), mays[text]);
        }
        for (int b = 1; b < 3; b++) for (int a = 0; a < b; a++) x.speak(a, b, 0);
        x.set(0, 0, 12);
        int[] costs = {1, 7, 8, 21};
        for (int text = 0; text < 4; text++) {
            x.force(text);
            due("costs of text " + text, x.quarrel(1), costs[text]);
        }
    }

    private static void names() {
        Doc.says("Of a PAIR: one, other: a, b;");
        for (int b = 1; b < 6; b++) {
            for (int a = 0; a < b; a++) {
                TwoKeys x = made(ruled("may 1;costs 1;fears one*10+other;").then(plain(6, 1)));
                x.lay(0, b, a);
                due("one, other of " + a + ", " + b, x.worth(0), 10 * a + b);
            }
        }
        Doc.says("keys: how many keys the two hold by THE LAYING, together;");
        TwoKeys keys = made(ruled("may 1;costs keys;fears keys;").then(plain(5, 4)));
        due("nobody holds", keys.worth(0), 0);
        keys.lay(0, 0, 1);
        due("two", keys.worth(0), 2);
        keys.lay(1, 0, 1);
        due("four, of two chests", keys.worth(0), 8);
        keys.lay(2, 1, 2);
        due("five, five, and four of (1, 2)", keys.worth(0), 14);
        keys.lay(3, 3, 4);
        due("two of (3, 4)", keys.worth(0), 16);
        keys.lay(0, -1, 0);
        due("three, three, two", keys.worth(0), 3 + 3 + 2);
        TwoKeys all = made(ruled("may keys<8;costs 1;fears keys;").then(plain(2, 4)));
        for (int chest = 0; chest < 4; chest++) all.lay(chest, 0, 1);
        due("all eight keys", all.mayLay(0, 0), 0);
        due("all eight keys", all.worth(0), 32);
        Doc.says("month: THE MONTH;");
        TwoKeys month = made(ruled("may 1;costs 1;fears month;").then(plain(2, 1)));
        month.lay(0, 0, 1);
        for (int m = 12; m >= 0; m--) {
            month.set(0, 0, m);
            due("month", month.worth(0), m);
        }
        Doc.says("far: the fewest who go between them, each SPEAKING with the next one "
            + "(0: they SPEAK themselves; 9: there is no way);");
        TwoKeys far = made(ruled("may 1;costs 1;fears far;").then(plain(6, 1)));
        far.lay(0, 0, 5);
        due("no way", far.worth(0), 9);
        for (int p = 0; p < 4; p++) far.speak(p, p + 1, 0);
        due("no way to the last", far.worth(0), 9);
        far.speak(4, 5, 1);
        due("not yet", far.worth(0), 9);
        far.set(0, 0, 1);
        due("four", far.worth(0), 4);
        for (int p = 2; p < 5; p++) {
            far.speak(0, p, 0);
            due("fewer", far.worth(0), 5 - p);
        }
        far.speak(0, 5, 1);
        due("they speak", far.worth(0), 0);
        Doc.says("chest: the CHEST's number (of costs: 0).");
        TwoKeys chest = made(ruled("may chest=2;costs 7+chest;fears chest+10;").then(plain(2, 4)));
        for (int c = 0; c < 4; c++) {
            chest.set(2, c, 9 - c);
            due("chest of may", chest.mayLay(c, 0), c == 2 ? 1 : 0);
            chest.lay(c, 0, 1);
            due("chest of fears", chest.worth(0), 10 + c);
            chest.lay(c, -1, 0);
        }
        TwoKeys costs = made(ruled("may chest<5;costs 7+chest*10;fears 1;").then(plain(2, 3)));
        costs.speak(0, 1, 0);
        due("chest of costs", costs.quarrel(1), 7);
    }

    private static int costs(String e) {
        TwoKeys x = made(ruled("may 1;costs " + e + ";fears 1;").then(plain(2, 1)));
        x.speak(0, 1, 0);
        return x.quarrel(1);
    }

    private static void partsTold() {
        Doc.says("may: whether they may hold the keys of a CHEST, too (not 0; besides FITS).");
        String[] mays = {"0", "1", "2", "-1", "9999", LEAST_INT, GREATEST_INT, "256*256*256*256", "not 1"};
        for (int i = 0; i < mays.length; i++) {
            TwoKeys x = made(ruled("may " + mays[i] + REST).then(plain(2, 1)));
            boolean isZero = i == 0 || i >= 7;
            due("may " + mays[i], x.mayLay(0, 0), isZero ? 0 : 1);
            x.speak(0, 1, 0);
            due("may " + mays[i] + ", but they speak", x.mayLay(0, 0), 0);
        }
        Doc.says("costs: what it costs that they quarrel (0 .. 99, else the bound).");
        String[] told = {"0", "1", "98", "99", "100", "101", "9999", "0-1", "-2", LEAST_INT, GREATEST_INT, "-" + GREATEST_INT,
            GREATEST_INT + "*2+100"};
        int[] bounded = {0, 1, 98, 99, 99, 99, 99, 0, 0, 0, 99, 0, 98};
        for (int i = 0; i < told.length; i++) due("costs " + told[i], costs(told[i]), bounded[i]);
        Doc.says("fears: how much one fears for a CHEST that they hold (0 .. 99, else the bound).");
        for (int i = 0; i < told.length; i++) tells(told[i], bounded[i]);
        TwoKeys x = made(ruled("may 1;costs 1;fears 100-chest*150;").then(plain(2, 4)));
        for (int chest = 0; chest < 4; chest++) x.lay(chest, 0, 1);
        due("each is bounded, not their sum", x.worth(0), 99);
        TwoKeys y = made(ruled("may 1;costs 1;fears 9999;").then(plain(2, 4)));
        for (int chest = 0; chest < 4; chest++) y.lay(chest, 0, 1);
        due("each is bounded, not their sum", y.worth(0), 396);
    }

    private static void firstText() {
        Doc.says("TEXT 0, at first THE RULE, is: may 1 ; costs 1 + far ; fears 9 - far ;");
        TwoKeys x = made(plain(4, 1));
        due("the rule", x.count(6), 0);
        due("may 1", x.mayLay(0, 0), 1);
        x.lay(0, 0, 1);
        due("fears 9 - 9", x.worth(0), 0);
        x.speak(0, 1, 0);
        due("fears 9 - 0", x.worth(0), 9);
        x.lay(0, 0, 2);
        x.speak(1, 2, 0);
        due("fears 9 - 1", x.worth(0), 8);
        TwoKeys two = made(plain(2, 1));
        two.speak(0, 1, 0);
        due("costs 1 + 0", two.quarrel(1), 1);
        TwoKeys again = made(ruled("may 0;costs 50;fears 50;").then(plain(2, 1)));
        due("forced again", again.force(0), 1);
        due("may 1", again.mayLay(0, 0), 1);
    }

    private static void feed() {
        Doc.says("`int feed(int letter)`: A byte (0 .. 255) comes behind THE TAPE: how many it has. BAD; FULL.");
        range(LIVED, "feed", (x, letter) -> x.feed(letter), 0, 255, BAD);
        range(NEW, "feed", (x, letter) -> x.feed(letter), 0, 255, BAD);
        TwoKeys x = new TwoKeys();
        for (int i = 1; i <= 160; i++) due("feed", x.feed(i * 7 % 256), i);
        for (int i = 0; i < 3; i++) due("full", x.feed(32), FULL);
        due("as many as there were", x.count(5), 160);
        refused(FULL_TAPE, "a byte more", y -> y.feed(32), FULL);
        refused(FULL_TAPE, "a byte more", y -> y.feed('?'), FULL);
        refused(FULL_TAPE, "a byte more", y -> y.feed(0), FULL);
        refused(FULL_TAPE, "a byte more", y -> y.feed(255), FULL);
        refused(CROWDED, "a byte more", y -> y.feed(32), FULL);
        for (int letter : new int[] {-1, 256, LEAST, GREATEST, 32 - 256, 32 + 256}) {
            refused(FULL_TAPE, "BAD is named ahead of FULL", y -> y.feed(letter), BAD);
            refused(LIVED, "none such", y -> y.feed(letter), BAD);
        }
        TwoKeys y = new TwoKeys();
        feed(y, "may 1;costs 1;");
        y.feed(-1);
        y.feed(256);
        due("what was refused is not on the tape", read(y, "fears 1;"), 1);
    }

    private static void text() {
        Doc.says("`int text()`: THE TAPE, which is empty then (by a FAULT, too), is a TEXT: its number; "
            + "-100 less the place of its FAULT. FULL (ahead of all): no TEXT more has room (THE TAPE stays).");
        due("an empty tape ends too early", new TwoKeys().text(), -100);
        TwoKeys x = made(LIVED);
        due("a fault: may one<2;co", x.text(), -110);
        due("the tape is empty by a fault, too", x.count(5), 0);
        due("no text came", x.count(4), 2);
        due("nor did the rule change", x.count(6), 0);
        due("behind a fault the tape begins anew", read(x, PLAIN_TEXT), 2);
        due("the tape is empty", x.count(5), 0);
        due("the text is not the rule yet", x.count(6), 0);
        for (int i = 0; i < 20; i++) due("faults take no room", read(x, "?"), -100);
        for (int i = 3; i < 6; i++) due("text", read(x, PLAIN_TEXT), i);
        due("full", read(x, PLAIN_TEXT), FULL);
        due("the tape stays", x.count(5), PLAIN_TEXT.length());
        due("it grows on", x.feed(32), PLAIN_TEXT.length() + 1);
        due("the greatest fault: 160 blanks", read(new TwoKeys(), " ".repeat(160)), -260);
        refused(CROWDED, "no room", y -> y.text(), FULL);
        refused(LIVED.then(y -> {
            y.text();
            for (int i = 0; i < 4; i++) read(y, PLAIN_TEXT);
        }), "no room, the tape being empty", y -> y.text(), FULL);
        Town noRoom = y -> {
            for (int i = 0; i < 5; i++) read(y, PLAIN_TEXT);
        };
        refused(noRoom, "FULL ahead of an empty tape's fault", y -> y.text(), FULL);
        refused(noRoom.then(y -> feed(y, "?")), "FULL ahead of a fault", y -> y.text(), FULL);
        refused(noRoom.then(y -> feed(y, PLAIN_TEXT)), "FULL ahead of a text", y -> y.text(), FULL);
        // a fault changes nothing but the tape
        asks(LIVED.then(y -> y.text()), "a fault", y -> y.text(), -100);
        Town emptied = LIVED.then(y -> y.text());
        asks(emptied, "a fault behind it", y -> read(y, "may 1;costs 1;fears 1; far"), -123);
        asks(emptied, "a fault behind it", y -> read(y, "((((("), -100);
    }

    private static void force() {
        Doc.says("`int force(int text)`: A TEXT is THE RULE: which was. BAD.");
        range(NEW, "force", (x, text) -> x.force(text), 0, 0, BAD);
        range(LIVED, "force", (x, text) -> x.force(text), 0, 1, BAD);
        range(CROWDED, "force", (x, text) -> x.force(text), 0, 5, BAD);
        TwoKeys x = made(CROWDED);
        int before = 0;
        for (int text : new int[] {5, 5, 0, 1, 4, 0}) {
            due("which was", x.force(text), before);
            due("the rule", x.count(6), text);
            before = text;
        }
    }
}
