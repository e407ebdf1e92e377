/** Promises 1 to 7, and the terms of people, months, chests. */
final class EdgesOfPeople extends Edge {
    static void run() {
        newObject();
        peopleOfTown();
        months();
        pairNumbers();
        kinds();
        numbersAndGold();
        layingAtFirst();
        mostKeys();
        constants();
        refusals();
        fits();
        worths();
        people();
        speak();
        told();
        chest();
        set();
        chestTold();
    }

    private static void newObject() {
        Doc.says("`TwoKeys()`: Five PEOPLE who don't speak, no CHESTS.");
        TwoKeys x = new TwoKeys();
        int[] counts = {5, 0, 0, 4, 1, 0, 0, 0};
        for (int what = 0; what < 8; what++) due("count(" + what + ")", x.count(what), counts[what]);
        for (int b = 1; b < 5; b++) {
            for (int a = 0; a < b; a++) {
                due("told month", x.told(a, b, 0), 13);
                due("told far", x.told(a, b, 1), 9);
                due("told band", x.told(a, b, 2), 9);
            }
        }
        for (int chest = 0; chest < 4; chest++) due("no chest " + chest, x.chestTold(chest, 0), BAD);
        due("there is no image", x.back(), STATE);
        due("a second object is a town of its own", new TwoKeys().count(0) + x.people(2) + new TwoKeys().count(0), 15);
    }

    private static void peopleOfTown() {
        Doc.says("PEOPLE are 0 .. n - 1 (n 2 .. 6; 5 at first).");
        due("at first", new TwoKeys().count(0), 5);
        for (int n = 2; n <= 6; n++) {
            Town town = plain(n, 0);
            range(town, "speak of " + n, (x, a) -> x.speak(a, 0 + (a == 0 ? 1 : 0), 0), 0, n - 1, BAD);
            int pairs = n * (n - 1) / 2;
            range(plain(n, 1), "pairs of " + n, (x, pair) -> x.mayLay(0, pair), 0, pairs - 1, BAD);
        }
    }

    private static void months() {
        Doc.says("Two of them SPEAK from a MONTH on (0 .. 12; 13, as at first: never): by THE MONTH (0 .. 12; 0 at first), "
            + "if that is THE MONTH or less.");
        for (int from = 0; from <= 13; from++) {
            TwoKeys x = new TwoKeys();
            due("never, at first", x.speak(1, 3, from), 13);
            for (int month = 0; month <= 12; month++) {
                x.set(0, 0, month);
                due("from " + from + " on, in " + month, x.count(7), from <= month ? 1 : 0);
                due("from " + from + " on, in " + month, x.told(3, 1, 1), from <= month ? 0 : 9);
            }
        }
        due("the month at first", new TwoKeys().count(2), 0);
        due("the month at first", new TwoKeys().set(0, 0, 5), 0);
    }

    private static void pairNumbers() {
        Doc.says("PAIRS (a, b), a below b, have the number b (b - 1) by 2, and a.");
        int[][] twos = {{0, 1}, {0, 2}, {1, 2}, {0, 3}, {1, 3}, {2, 3}, {0, 4}, {1, 4}, {2, 4}, {3, 4},
            {0, 5}, {1, 5}, {2, 5}, {3, 5}, {4, 5}};
        for (int pair = 0; pair < 15; pair++) {
            TwoKeys x = made(plain(6, 1));
            x.lay(0, twos[pair][0], twos[pair][1]);
            due("pair", x.chestTold(0, 4), pair);
            x.lay(0, twos[pair][1], twos[pair][0]);
            due("pair, the higher one first", x.chestTold(0, 4), pair);
            x.speak(twos[pair][1], twos[pair][0], 0);
            for (int other = 0; other < 15; other++) due("who speak", x.mayLay(0, other), other == pair ? 0 : 1);
        }
    }

    private static void kinds() {
        Doc.says("CHESTS (4 at most, numbered from 0) have a KIND: 0 CHEST, 1 PROUD under CHEST, 2 OPEN under CHEST, "
            + "3 WEDDED under PROUD, 4 DEEP under OPEN, 5 STRICT under PROUD;");
        String[] under = {"0", "01", "02", "013", "024", "015"};
        for (int kind = 0; kind < 6; kind++) {
            TwoKeys x = new TwoKeys();
            due("numbered from 0", x.chest(kind, 7), 0);
            due("kind", x.chestTold(0, 0), kind);
            for (int k = 0; k < 6; k++) {
                due(kind + " taken for " + k, x.taken(0, k), under[kind].indexOf((char) ('0' + k)) >= 0 ? 7 : OTHER_SORT);
            }
        }
        TwoKeys x = new TwoKeys();
        for (int i = 0; i < 4; i++) due("numbered on", x.chest(5 - i, 0), i);
        due("4 at most", x.chest(0, 0), FULL);
        due("4 at most", x.count(1), 4);
    }

    private static void numbersAndGold() {
        Doc.says("a NUMBER (0 .. 9), GOLD (0 .. 99).");
        for (int what = 0; what <= 999; what++) {
            TwoKeys x = new TwoKeys();
            x.chest(0, what);
            due("number of " + what, x.chestTold(0, 1), what % 10);
            due("gold of " + what, x.chestTold(0, 2), what / 10);
        }
    }

    private static void layingAtFirst() {
        Doc.says("THE LAYING: for each CHEST the two who hold its keys (a PAIR), or nobody (at first).");
        TwoKeys x = new TwoKeys();
        for (int chest = 0; chest < 4; chest++) {
            x.chest(0, 0);
            due("at first", x.chestTold(chest, 4), NONE);
        }
        due("nobody has keys", x.lawful(2), 0);
        x.lay(2, 0, 1);
        for (int chest = 0; chest < 4; chest++) due("of each its own", x.chestTold(chest, 4), chest == 2 ? 0 : NONE);
    }

    private static void mostKeys() {
        Doc.says("MOST (1 .. 9; 4 at first): so many keys may one hold.");
        due("at first", new TwoKeys().count(3), 4);
        for (int most = 1; most <= 9; most++) {
            for (int held = 0; held <= 4; held++) {
                TwoKeys x = made(plain(2, held));
                x.set(1, 0, most);
                for (int chest = 0; chest < held; chest++) x.lay(chest, 0, 1);
                due("most " + most + ", held " + held, x.lawful(0), held <= most ? 1 : 0);
                due("most " + most + ", held " + held, x.lawful(1), held <= most ? 1 : 0);
            }
        }
    }

    private static void constants() {
        Doc.says("NONE is -1; NO, where a long is answered, -4611686018427387904.");
        due("NONE", TwoKeys.NONE, -1);
        due("NO", TwoKeys.NO, -4611686018427387904L);
        Doc.says("Quotients are cut toward 0.");
        TwoKeys x = new TwoKeys();
        x.chest(2, 10);
        due("half of 1", x.chestTold(0, 3), 0);
        x.set(3, 0, 99);
        due("half of 99", x.chestTold(0, 3), 49);
    }

    private static void refusals() {
        Doc.says("Refusals, the first that the call's words name; they change nothing: "
            + "BAD (-2: a number is none such or not as told), STATE (-3), FULL (-4);");
        due("BAD", TwoKeys.BAD, -2);
        due("STATE", TwoKeys.STATE, -3);
        due("FULL", TwoKeys.FULL, -4);
        refused(LIVED, "people(7)", x -> x.people(7), -2);
        refused(STUCK, "move()", x -> x.move(), -3);
        refused(CROWDED, "chest(0, 0)", x -> x.chest(0, 0), -4);
        Doc.says("the host's: -11 nothing where something is asked, -12 a place outside, -13 a thing of another sort or KIND, "
            + "-14 a size below 0.");
        refused(LIVED, "cell(3, 0, 0)", x -> x.cell(3, 0, 0), -11);
        refused(LIVED, "cell(0, 4, 0)", x -> x.cell(0, 4, 0), -12);
        refused(LIVED, "copy(0, 0, 1, 0, 1)", x -> x.copy(0, 0, 1, 0, 1), -13);
        refused(LIVED, "taken(0, 2)", x -> x.taken(0, 2), -13);
        refused(LIVED, "sheet(0, 0, -1)", x -> x.sheet(0, 0, -1), -14);
    }

    private interface Fit { boolean of(int a, int b, boolean speak, int number); }

    private static void fits() {
        Doc.says("FITS (whether a, b may hold it, s telling whether they SPEAK): CHEST: if they don't;");
        fitsAs(0, (a, b, s, number) -> !s);
        Doc.says("PROUD: as a CHEST, and b is not NUMBER;");
        fitsAs(1, (a, b, s, number) -> !s && b != number);
        Doc.says("OPEN: if a CHEST would, or a is NUMBER modulo 3;");
        fitsAs(2, (a, b, s, number) -> !s || (a == 0 && (number == 0 || number == 3 || number == 6 || number == 9))
            || (a == 1 && (number == 1 || number == 4 || number == 7)) || (a == 2 && (number == 2 || number == 5 || number == 8)));
        Doc.says("WEDDED: as a PROUD, or a and b are both below 2;");
        fitsAs(3, (a, b, s, number) -> !s && b != number || a == 0 && b == 1);
        Doc.says("DEEP: as an OPEN, and a and b together aren't NUMBER;");
        fitsAs(4, (a, b, s, number) -> (!s || a == number % 3) && a + b != number);
        Doc.says("STRICT: as a PROUD, and b less a is above 1.");
        fitsAs(5, (a, b, s, number) -> !s && b != number && b != a + 1);
    }

    private static void fitsAs(int kind, Fit fit) {
        for (int number = 0; number <= 9; number++) {
            TwoKeys x = made(plain(6, 0));
            x.chest(kind, number);
            int pair = 0;
            for (int b = 1; b < 6; b++) {
                for (int a = 0; a < b; a++) {
                    String call = "kind " + kind + ", number " + number + ", pair " + pair;
                    due(call, x.mayLay(0, pair), fit.of(a, b, false, number) ? 1 : 0);
                    x.speak(a, b, 0);
                    due(call + ", who speak", x.mayLay(0, pair), fit.of(a, b, true, number) ? 1 : 0);
                    pair++;
                }
            }
        }
    }

    private static void worths() {
        Doc.says("WORTH (in a MONTH): CHEST: GOLD;");
        worthAs(0, new int[][] {{0, 0, 0, 0}, {99, 9, 12, 99}, {1, 9, 12, 1}});
        Doc.says("PROUD: NUMBER more than a CHEST;");
        worthAs(1, new int[][] {{0, 0, 0, 0}, {0, 9, 12, 9}, {99, 9, 12, 108}, {99, 0, 0, 99}});
        Doc.says("OPEN: half (cut) of a CHEST's;");
        worthAs(2, new int[][] {{0, 9, 12, 0}, {1, 0, 0, 0}, {2, 0, 0, 1}, {3, 9, 12, 1}, {98, 0, 0, 49}, {99, 9, 12, 49}});
        Doc.says("WEDDED: MONTH more than a PROUD;");
        worthAs(3, new int[][] {{0, 0, 0, 0}, {0, 0, 1, 1}, {99, 9, 12, 120}, {99, 9, 0, 108}, {0, 0, 12, 12}});
        Doc.says("DEEP: twice an OPEN's, less MONTH;");
        worthAs(4, new int[][] {{99, 9, 0, 98}, {98, 9, 0, 98}, {99, 9, 12, 86}, {14, 0, 12, 2}, {13, 0, 11, 1}});
        Doc.says("STRICT: 5 less than a PROUD.");
        worthAs(5, new int[][] {{99, 9, 12, 103}, {0, 6, 0, 1}, {6, 0, 12, 1}, {3, 3, 0, 1}});
        Doc.says("(WORTH 0 at least, in the end.)");
        worthAs(4, new int[][] {{12, 0, 12, 0}, {13, 0, 12, 0}, {11, 0, 12, 0}, {1, 0, 1, 0}, {0, 0, 12, 0}, {0, 0, 0, 0}});
        worthAs(5, new int[][] {{0, 5, 0, 0}, {0, 4, 0, 0}, {5, 0, 0, 0}, {4, 0, 12, 0}, {0, 0, 0, 0}, {2, 2, 0, 0}});
    }

    /** Rows of gold, number, month and the worth that is due. */
    private static void worthAs(int kind, int[][] rows) {
        for (int[] row : rows) {
            TwoKeys x = new TwoKeys();
            x.chest(kind, 10 * row[0] + row[1]);
            x.set(0, 0, row[2]);
            due("kind " + kind + " gold " + row[0] + " number " + row[1] + " month " + row[2], x.chestTold(0, 3), row[3]);
            x.lay(0, 0, 3);
            boolean fits = x.chestTold(0, 5) == 1;
            due("worths of it", x.worth(1), fits ? row[3] : -row[3]);
        }
    }

    private static void people() {
        Doc.says("`int people(int n)`: There are n PEOPLE, none of whom SPEAKS, and nobody holds a key: how many there were. BAD.");
        range(LIVED, "people", (x, n) -> x.people(n), 2, 6, BAD);
        range(NEW, "people", (x, n) -> x.people(n), 2, 6, BAD);
        for (int n = 2; n <= 6; n++) {
            TwoKeys x = made(LIVED);
            due("there were", x.people(n), 5);
            due("there are", x.count(0), n);
            due("nobody speaks", x.count(7), 0);
            x.set(0, 0, 12);
            due("nor will", x.count(7), 0);
            for (int chest = 0; chest < 2; chest++) due("nobody holds", x.chestTold(chest, 4), NONE);
            due("nobody has keys", x.lawful(2), 0);
            due("chests stay", x.count(1), 2);
            due("most stays", x.count(3), 3);
            due("texts stay", x.count(4), 2);
            due("the tape stays", x.count(5), 12);
            due("sheets stay", x.cell(1, 5, 0), 1);
            due("the same number again", x.people(n), n);
        }
        TwoKeys x = made(LIVED);
        due("as many as there were: none speaks all the same", x.people(5), 5);
        due("none speaks", x.count(7), 0);
        due("nobody holds", x.chestTold(0, 4), NONE);
        due("the month stays", x.count(2), 2);
        // keys that were held are no more told by a text
        TwoKeys keys = made(ruled("may 1;costs 1;fears keys;").then(plain(5, 2)));
        keys.lay(0, 0, 1);
        keys.people(5);
        keys.lay(1, 0, 1);
        due("keys are counted anew", keys.worth(0), 2);
        TwoKeys more = made(plain(6, 0));
        more.speak(4, 5, 0);
        more.people(2);
        more.people(6);
        due("who left and came again never speaks", more.told(4, 5, 0), 13);
    }

    private static void speak() {
        Doc.says("`int speak(int a, int b, int month)`: Two SPEAK from a MONTH on (0 .. 13): from which they did. BAD.");
        range(LIVED, "speak a", (x, a) -> x.speak(a, a == 0 ? 4 : 0, 5), 0, 4, BAD);
        range(LIVED, "speak b", (x, b) -> x.speak(b == 0 ? 4 : 0, b, 5), 0, 4, BAD);
        range(LIVED, "speak month", (x, month) -> x.speak(0, 1, month), 0, 13, BAD);
        range(plain(2, 1), "speak of two", (x, b) -> x.speak(1 - b, b, 0), 0, 1, BAD);
        range(plain(6, 1), "speak of six", (x, b) -> x.speak(b == 5 ? 0 : 5, b, 0), 0, 5, BAD);
        for (int a = 0; a < 5; a++) {
            int one = a;
            refused(LIVED, "with himself", x -> x.speak(one, one, 0), BAD);
        }
        refused(LIVED, "two who aren't there", x -> x.speak(5, 6, 0), BAD);
        refused(LIVED, "two who aren't there", x -> x.speak(-1, -2, 0), BAD);
        refused(LIVED, "all is wrong", x -> x.speak(LEAST, LEAST, LEAST), BAD);
        TwoKeys x = new TwoKeys();
        int before = 13;
        for (int month : new int[] {0, 13, 12, 12, 1, 0, 0}) {
            due("from which they did", x.speak(month % 2 == 0 ? 1 : 2, month % 2 == 0 ? 2 : 1, month), before);
            before = month;
        }
        due("of one pair alone", x.told(0, 1, 0) + x.told(0, 2, 0), 26);
    }

    private static void told() {
        Doc.says("`int told(int a, int b, int what)`: From which MONTH on two SPEAK (what 0), how many go between them now (1; 9), "
            + "BAND (2). BAD.");
        range(LIVED, "told a", (x, a) -> x.told(a, a == 1 ? 4 : 1, 0), 0, 4, BAD);
        range(LIVED, "told b", (x, b) -> x.told(b == 1 ? 4 : 1, b, 2), 0, 4, BAD);
        range(LIVED, "told what", (x, what) -> x.told(0, 1, what), 0, 2, BAD);
        for (int what = -1; what <= 3; what++) {
            for (int a = -1; a <= 5; a++) {
                int w = what, one = a;
                refused(LIVED, "told of one", x -> x.told(one, one, w), BAD);
            }
        }
        asks(LIVED, "told(0, 1, 0)", x -> x.told(0, 1, 0), 3);
        asks(LIVED, "told(1, 3, 1)", x -> x.told(1, 3, 1), 1);
        asks(LIVED, "told(3, 1, 2)", x -> x.told(3, 1, 2), 3);
        asks(LIVED, "told(0, 1, 1): not yet", x -> x.told(0, 1, 1), 9);
        for (int n = 2; n <= 6; n++) {
            TwoKeys x = made(plain(n, 0));
            due("no way", x.told(0, n - 1, 1), 9);
            due("no band", x.told(0, n - 1, 2), 9);
            for (int p = 0; p + 1 < n; p++) x.speak(p, p + 1, 12);
            due("not yet", x.told(0, n - 1, 1), 9);
            x.set(0, 0, 12);
            due("all go between", x.told(0, n - 1, 1), n - 2);
            due("all are the band", x.told(n - 1, 0, 2), n);
            due("never, yet there is a way", x.told(0, n - 1, 0), n == 2 ? 12 : 13);
        }
    }

    private static void chest() {
        Doc.says("`int chest(int kind, int what)`: A CHEST (what: 10 times GOLD, and NUMBER): its number. BAD; FULL.");
        range(LIVED, "chest kind", (x, kind) -> x.chest(kind, 0), 0, 5, BAD);
        range(LIVED, "chest what", (x, what) -> x.chest(0, what), 0, 999, BAD);
        range(NEW, "chest what", (x, what) -> x.chest(5, what), 0, 999, BAD);
        refused(CROWDED, "a fifth", x -> x.chest(0, 0), FULL);
        refused(LIVED.then(x -> { x.chest(0, 0); x.chest(0, 0); }), "a fifth", x -> x.chest(0, 0), FULL);
        refused(CROWDED, "a fifth", x -> x.chest(5, 999), FULL);
        refused(CROWDED, "BAD is named ahead of FULL", x -> x.chest(6, 0), BAD);
        refused(CROWDED, "BAD is named ahead of FULL", x -> x.chest(-1, 0), BAD);
        refused(CROWDED, "BAD is named ahead of FULL", x -> x.chest(0, 1000), BAD);
        refused(CROWDED, "BAD is named ahead of FULL", x -> x.chest(0, -1), BAD);
        TwoKeys x = made(LIVED);
        due("its number", x.chest(3, 987), 2);
        due("kind", x.chestTold(2, 0), 3);
        due("number", x.chestTold(2, 1), 7);
        due("gold", x.chestTold(2, 2), 98);
        due("nobody holds it", x.chestTold(2, 4), NONE);
        due("others stay", x.chestTold(1, 0) * 1000 + x.chestTold(1, 2) * 10 + x.chestTold(1, 1), 4456);
        due("its number", x.chest(0, 0), 3);
        due("full", x.chest(0, 0), FULL);
    }

    private static void set() {
        Doc.says("`int set(int what, int of, int v)`: THE MONTH (what 0), MOST (1; by 0, 1 of does not matter), "
            + "NUMBER (2), GOLD (3) of a CHEST becomes v: what it was. BAD.");
        range(LIVED, "what", (x, what) -> x.set(what, 0, 1), 0, 3, BAD);
        range(LIVED, "the month", (x, v) -> x.set(0, 0, v), 0, 12, BAD);
        range(LIVED, "most", (x, v) -> x.set(1, 0, v), 1, 9, BAD);
        range(LIVED, "number", (x, v) -> x.set(2, 1, v), 0, 9, BAD);
        range(LIVED, "gold", (x, v) -> x.set(3, 1, v), 0, 99, BAD);
        range(LIVED, "number of", (x, of) -> x.set(2, of, 4), 0, 1, BAD);
        range(LIVED, "gold of", (x, of) -> x.set(3, of, 4), 0, 1, BAD);
        range(CROWDED, "number of", (x, of) -> x.set(2, of, 4), 0, 3, BAD);
        range(CROWDED, "gold of", (x, of) -> x.set(3, of, 4), 0, 3, BAD);
        refused(NEW, "of no chest", x -> x.set(2, 0, 0), BAD);
        refused(NEW, "of no chest", x -> x.set(3, 0, 0), BAD);
        for (int of : new int[] {LEAST, -1, 0, 4, GREATEST}) {
            TwoKeys x = made(LIVED);
            due("of does not matter", x.set(0, of, 12), 2);
            due("of does not matter", x.set(1, of, 9), 3);
            due("it is so", x.count(2) * 10 + x.count(3), 129);
            due("of does not matter: not as told, for all that", x.set(0, of, 13), BAD);
            due("of does not matter: not as told, for all that", x.set(1, of, 0), BAD);
        }
        TwoKeys x = made(LIVED);
        due("number", x.set(2, 1, 9), 6);
        due("number", x.set(2, 1, 0), 9);
        due("gold", x.set(3, 1, 99), 45);
        due("gold", x.set(3, 1, 0), 99);
        due("of another chest none", x.chestTold(0, 2) * 10 + x.chestTold(0, 1), 123);
        due("the kind stays", x.chestTold(1, 0), 4);
        x.set(0, 0, 3);
        due("they speak from that month on", x.told(0, 1, 1), 0);
        x.set(0, 0, 2);
        due("months can go back", x.told(0, 1, 1), 9);
    }

    private static void chestTold() {
        Doc.says("`int chestTold(int chest, int what)`: Of a CHEST: 0 KIND, 1 NUMBER, 2 GOLD, 3 WORTH now, "
            + "4 the PAIR that holds it (NONE), 5 whether it may be LAID so (1, 0; nobody: 0). BAD.");
        range(LIVED, "chest", (x, chest) -> x.chestTold(chest, 2), 0, 1, BAD);
        range(CROWDED, "chest", (x, chest) -> x.chestTold(chest, 2), 0, 3, BAD);
        range(LIVED, "what", (x, what) -> x.chestTold(0, what), 0, 5, BAD);
        for (int what = -1; what <= 6; what++) {
            int w = what;
            refused(NEW, "no chest", x -> x.chestTold(0, w), BAD);
        }
        int[][] want = {{1, 3, 12, 15, 1, 1}, {4, 6, 45, 42, 5, 0}};
        for (int chest = 0; chest < 2; chest++) {
            for (int what = 0; what < 6; what++) {
                int c = chest, w = what;
                asks(LIVED, "chestTold(" + c + ", " + w + ")", x -> x.chestTold(c, w), want[c][w]);
            }
        }
        TwoKeys x = made(LIVED);
        x.lay(1, 1, 2);
        due("1 and 2 speak, and a isn't NUMBER modulo 3", x.chestTold(1, 5), 0);
        x.lay(1, -1, 0);
        due("nobody", x.chestTold(1, 4), NONE);
        due("nobody", x.chestTold(1, 5), 0);
        x.lay(0, 1, 3);
        due("b is NUMBER", x.chestTold(0, 5), 0);
        TwoKeys rule = made(ruled("may keys<3;costs 1;fears 1;").then(plain(5, 2)));
        rule.lay(0, 0, 1);
        due("two keys", rule.chestTold(0, 5), 1);
        rule.lay(1, 1, 2);
        due("three keys", rule.chestTold(0, 5), 0);
    }
}
