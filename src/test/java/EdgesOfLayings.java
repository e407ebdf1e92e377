/** Promises 11 to 15, and the terms of layings. */
final class EdgesOfLayings extends Edge {
    private static final String REST = ";costs 1;fears 1;";

    static void run() {
        mayBeLaid();
        lawfulOnes();
        rowsOfPairs();
        bands();
        leastMoved();
        largest();
        lay();
        mayLay();
        lawful();
        best();
        move();
    }

    private static void mayBeLaid() {
        Doc.says("A CHEST may be LAID on a PAIR, if it FITS, and may tells it.");
        String[] mays = {"0", "1"};
        for (int may = 0; may < 2; may++) {
            for (int month = 0; month < 2; month++) {
                TwoKeys x = made(ruled("may " + mays[may] + REST).then(plain(2, 1)));
                x.speak(0, 1, 1);
                x.set(0, 0, month);
                x.lay(0, 0, 1);
                boolean both = may == 1 && month == 0;
                due("may " + may + ", month " + month, x.mayLay(0, 0), both ? 1 : 0);
                due("may " + may + ", month " + month, x.chestTold(0, 5), both ? 1 : 0);
                due("may " + may + ", month " + month, x.lawful(0), both ? 1 : 0);
                due("may " + may + ", month " + month, x.lawful(1), both ? 1 : 0);
            }
        }
    }

    private static void lawfulOnes() {
        Doc.says("THE LAYING is LAWFUL, if each CHEST is laid on a PAIR on which it may be, and nobody holds more than MOST keys.");
        due("no chests", new TwoKeys().lawful(0), 1);
        for (int n = 2; n <= 6; n++) {
            for (int chests = 1; chests <= 4; chests++) {
                TwoKeys x = made(plain(n, chests));
                for (int chest = 0; chest < chests; chest++) {
                    due("nobody holds the last ones", x.lawful(0), 0);
                    x.lay(chest, 0, n - 1);
                }
                due("all are held", x.lawful(0), 1);
                x.set(1, 0, chests);
                due("as many keys as most", x.lawful(0), 1);
                if (chests > 1) {
                    x.set(1, 0, chests - 1);
                    due("one more than most", x.lawful(0), 0);
                    x.set(1, 0, 9);
                }
                x.speak(0, n - 1, 0);
                due("they speak", x.lawful(0), 0);
                x.speak(0, n - 1, 1);
                due("not yet", x.lawful(0), 1);
                for (int chest = 0; chest < chests; chest++) {
                    int pair = x.lay(chest, -1, 0);
                    due("one is held by nobody", x.lawful(0), 0);
                    due("it was held", pair, (n - 1) * (n - 2) / 2);
                    x.lay(chest, 0, n - 1);
                }
            }
        }
    }

    private static void rowsOfPairs() {
        Doc.says("LAYINGS are all rows of PAIRS, one for each CHEST, by which it would be so "
            + "(texts being told by THE LAYING as it is now), in the order of their numbers, CHEST 0's first.");
        for (int most = 1; most <= 4; most++) {
            TwoKeys x = made(plain(3, 3));
            x.set(1, 0, most);
            x.speak(0, 2, 0);
            x.set(2, 1, 3);
            x.sheet(0, 2, 3);
            int[][] twos = {{0, 1}, {0, 2}, {1, 2}};
            int ahead = 0;
            for (int row = 0; row < 27; row++) {
                int[] pairs = {row / 9, row / 3 % 3, row % 3};
                int[] keys = new int[3];
                boolean isOne = true;
                for (int chest = 0; chest < 3; chest++) {
                    x.cell(0, chest, pairs[chest]);
                    isOne &= pairs[chest] != 1;
                    for (int p : twos[pairs[chest]]) isOne &= ++keys[p] <= most;
                }
                due("most " + most + ", row " + row, x.place(0), isOne ? ahead : NONE);
                if (isOne) ahead++;
            }
            due("all of them", x.lawful(1), ahead);
        }
        // by the keys that are held now, not by those of the row
        TwoKeys keys = made(ruled("may keys<1" + REST).then(plain(4, 2)));
        due("nobody has keys: all rows", keys.lawful(1), 36);
        keys.lay(0, 0, 1);
        due("only those of 2, 3", keys.lawful(1), 1);
        due("moved by the keys as they were", keys.move(), 2);
        due("on 2, 3", keys.chestTold(0, 4) * 10 + keys.chestTold(1, 4), 55);
        due("told by the laying that now is", keys.lawful(0), 0);
        due("told by the laying that now is", keys.best(0, 0), 0);
        due("no chests: the empty row", new TwoKeys().lawful(1), 1);
        for (int n = 2; n <= 6; n++) {
            for (int chests = 0; chests <= 4; chests++) {
                int rows = 1;
                for (int chest = 0; chest < chests; chest++) rows *= n * (n - 1) / 2;
                due("all rows of " + n + ", " + chests, made(plain(n, chests)).lawful(1), rows);
            }
        }
    }

    private static void bands() {
        Doc.says("BAND of a PAIR: how many they are with those who go between them: far and 2; 9, if there is no way.");
        TwoKeys x = made(plain(6, 0));
        for (int p = 0; p < 5; p++) x.speak(p, p + 1, 0);
        for (int p = 1; p < 6; p++) due("band", x.told(0, p, 2), p + 1);
        x.speak(0, 1, 13);
        for (int p = 1; p < 6; p++) due("no way", x.told(0, p, 2), 9);
        for (int p = 2; p < 6; p++) due("others", x.told(1, p, 2), p);
    }

    /** All chests on one pair; the rule is to bar people 0 and 1. */
    private static Town onFirst(int chests) {
        return ruled("may 1<one" + REST).then(plain(6, chests)).then(x -> {
            for (int chest = 0; chest < chests; chest++) x.lay(chest, 0, 1);
        });
    }

    private static void row(String what, TwoKeys x, int sort, int much, int... pairs) {
        due(what + ": how much", x.best(sort, NONE), much);
        for (int chest = 0; chest < pairs.length; chest++) due(what + ": chest " + chest, x.best(sort, chest), pairs[chest]);
        due(what + ": no more chests", x.best(sort, pairs.length), BAD);
    }

    private static void leastMoved() {
        Doc.says("LEAST MOVED: of LAYINGS the one for which fewest keys must be moved from THE LAYING "
            + "(of a CHEST that nobody holds none; else 2 less how many of the two hold one of its keys already); "
            + "of like ones the first row.");
        row("no chests", new TwoKeys(), 0, 0);
        for (int chests = 1; chests <= 4; chests++) {
            TwoKeys x = made(onFirst(chests));
            due("both keys of each", x.best(0, NONE), 2 * chests);
            for (int chest = 0; chest < chests; chest++) due("the first row", x.best(0, chest), 5);
        }
        TwoKeys x = made(onFirst(4));
        x.set(1, 0, 2);
        row("two keys each", x, 0, 8, 5, 5, 14, 14);
        x.set(1, 0, 3);
        row("three keys each", x, 0, 8, 5, 5, 5, 14);
        x.set(1, 0, 1);
        due("eight hands are too many", x.best(0, NONE), STATE);
        x = made(onFirst(4));
        x.lay(2, -1, 0);
        row("nobody holds one", x, 0, 6, 5, 5, 5, 5);
        x.lay(3, 0, 5);
        row("one of the two may hold on", x, 0, 5, 5, 5, 5, 12);
        x.lay(3, 4, 5);
        row("both may", x, 0, 4, 5, 5, 5, 14);
        x.lay(3, 1, 2);
        row("one of the two, as the lower one", x, 0, 5, 5, 5, 5, 5);
        // a later row, if it moves less: chest 1 keeps its pair, so chest 0 must give way
        TwoKeys y = made(plain(4, 2));
        y.set(1, 0, 1);
        y.lay(1, 0, 1);
        row("fewest of all, not chest by chest", y, 0, 0, 5, 0);
        y.lay(0, 0, 1);
        row("of like ones the first row", y, 0, 2, 0, 5);
        y.lay(0, 0, 2);
        row("one key of chest 1", y, 0, 1, 1, 4);
        y.lay(1, 1, 3);
        row("as it is", y, 0, 0, 1, 4);
    }

    private static void largest() {
        Doc.says("LARGEST: the one for which BANDS are most, together; of like ones the first.");
        row("no chests", new TwoKeys(), 1, 0);
        for (int chests = 1; chests <= 4; chests++) {
            due("no ways at all", made(plain(6, chests)).best(1, NONE), 9 * chests);
            due("the first", made(plain(6, chests)).best(1, chests - 1), 0);
        }
        // two who speak and may hold an OPEN chest: the least band
        TwoKeys open = made(plain(2, 0));
        open.chest(2, 0);
        open.speak(0, 1, 0);
        row("a band of two", open, 1, 2, 0);
        TwoKeys line = made(plain(6, 2));
        for (int p = 0; p < 5; p++) line.speak(p, p + 1, 0);
        row("the ends of a line", line, 1, 12, 10, 10);
        line.set(1, 0, 1);
        row("each but one key: 0, 5 and 1, 4 or 0, 4 and 1, 5", line, 1, 10, 6, 11);
        line.lay(0, 2, 4);
        row("who holds now does not matter", line, 1, 10, 6, 11);
        line.speak(2, 3, 13);
        row("no way is nine", line, 1, 18, 3, 7);
    }

    private static void lay() {
        Doc.says("`int lay(int chest, int a, int b)`: A CHEST is truly held by two (a is -1: by nobody; b does not matter then): "
            + "the PAIR by which it was (NONE). BAD.");
        range(LIVED, "lay chest", (x, chest) -> x.lay(chest, 0, 1), 0, 1, BAD);
        range(LIVED, "lay chest on nobody", (x, chest) -> x.lay(chest, -1, 0), 0, 1, BAD);
        range(CROWDED, "lay chest", (x, chest) -> x.lay(chest, 0, 1), 0, 3, BAD);
        range(LIVED, "lay a", (x, a) -> x.lay(0, a, a == 3 ? 4 : 3), -1, 4, BAD);
        range(LIVED, "lay b", (x, b) -> x.lay(0, b == 3 ? 4 : 3, b), 0, 4, BAD);
        refused(LIVED, "b is nobody, a is not", x -> x.lay(0, 0, -1), BAD);
        for (int p = 0; p < 5; p++) {
            int one = p;
            refused(LIVED, "both keys by one", x -> x.lay(0, one, one), BAD);
        }
        refused(NEW, "no chests", x -> x.lay(0, 0, 1), BAD);
        refused(NEW, "no chests", x -> x.lay(0, -1, 0), BAD);
        for (int b : new int[] {LEAST, -1, 0, 5, GREATEST}) {
            TwoKeys x = made(LIVED);
            due("b does not matter", x.lay(0, -1, b), 1);
            due("nobody", x.chestTold(0, 4), NONE);
            due("it was nobody", x.lay(0, -1, b), NONE);
        }
        TwoKeys x = made(LIVED);
        due("the pair by which it was", x.lay(0, 3, 2), 1);
        due("the same again", x.lay(0, 2, 3), 5);
        due("truly, though they speak", x.chestTold(0, 4), 5);
        due("the other stays", x.chestTold(1, 4), 5);
        x.set(1, 0, 1);
        due("truly, though they hold more than most", x.lay(0, 2, 1), 5);
        due("keys", x.lawful(2), 2);
    }

    private static void mayLay() {
        Doc.says("`int mayLay(int chest, int pair)`: Whether a CHEST may be LAID on a PAIR (1, 0). BAD.");
        range(LIVED, "mayLay chest", (x, chest) -> x.mayLay(chest, 0), 0, 1, BAD);
        range(LIVED, "mayLay pair", (x, pair) -> x.mayLay(0, pair), 0, 9, BAD);
        range(CROWDED, "mayLay chest", (x, chest) -> x.mayLay(chest, 14), 0, 3, BAD);
        range(CROWDED, "mayLay pair", (x, pair) -> x.mayLay(3, pair), 0, 14, BAD);
        range(STUCK, "mayLay pair", (x, pair) -> x.mayLay(0, pair), 0, 2, BAD);
        range(plain(2, 1), "mayLay pair", (x, pair) -> x.mayLay(0, pair), 0, 0, BAD);
        refused(NEW, "no chests", x -> x.mayLay(0, 0), BAD);
        asks(LIVED, "mayLay(0, 0)", x -> x.mayLay(0, 0), 1);
        asks(LIVED, "mayLay(0, 4): b is NUMBER", x -> x.mayLay(0, 4), 0);
        // most does not matter
        TwoKeys x = made(STUCK);
        x.speak(0, 2, 13);
        due("they hold as many as they may already", x.mayLay(0, 1), 1);
    }

    private static void lawful() {
        Doc.says("`int lawful(int what)`: Whether THE LAYING is LAWFUL (what 0; 1, 0), how many LAYINGS there are (1), "
            + "most keys that anybody holds (2). BAD.");
        range(LIVED, "lawful", (x, what) -> x.lawful(what), 0, 2, BAD);
        range(NEW, "lawful", (x, what) -> x.lawful(what), 0, 2, BAD);
        range(STUCK, "lawful", (x, what) -> x.lawful(what), 0, 2, BAD);
        asks(STUCK, "not lawful", x -> x.lawful(0), 0);
        asks(STUCK, "no layings", x -> x.lawful(1), 0);
        asks(STUCK, "two of 1", x -> x.lawful(2), 2);
        asks(plain(6, 4), "all rows", x -> x.lawful(1), 50625);
        for (int p = 0; p < 6; p++) {
            TwoKeys one = made(plain(6, 4));
            for (int chest = 0; chest < 4; chest++) one.lay(chest, p, (p + 1 + chest) % 6);
            due("all by " + p, one.lawful(2), 4);
            one.set(1, 0, 3);
            due("more than most by " + p, one.lawful(0), 0);
        }
        TwoKeys x = made(plain(6, 4));
        due("nobody holds", x.lawful(2), 0);
        for (int chest = 0; chest < 4; chest++) {
            x.lay(chest, 5, chest);
            due("most of the last one", x.lawful(2), chest + 1);
        }
        x.lay(3, 0, 1);
        due("one less", x.lawful(2), 3);
        for (int chest = 0; chest < 4; chest++) x.lay(chest, -1, 0);
        due("nobody holds again", x.lawful(2), 0);
    }

    private static void best() {
        Doc.says("`int best(int sort, int chest)`: LEAST MOVED (sort 0), LARGEST (1): the PAIR of a CHEST; "
            + "chest NONE: how many keys, how much. BAD; STATE: there are no LAYINGS.");
        range(LIVED, "best sort", (x, sort) -> x.best(sort, 0), 0, 1, BAD);
        range(LIVED, "best chest", (x, chest) -> x.best(0, chest), -1, 1, BAD);
        range(LIVED, "largest chest", (x, chest) -> x.best(1, chest), -1, 1, BAD);
        range(CROWDED, "best chest", (x, chest) -> x.best(0, chest), -1, 3, BAD);
        range(NEW, "best chest", (x, chest) -> x.best(1, chest), -1, -1, BAD);
        for (int sort = 0; sort < 2; sort++) {
            int s = sort;
            for (int chest = NONE; chest < 2; chest++) {
                int c = chest;
                refused(STUCK, "no layings", x -> x.best(s, c), STATE);
            }
            refused(STUCK, "BAD is named ahead of STATE", x -> x.best(s, 2), BAD);
            refused(STUCK, "BAD is named ahead of STATE", x -> x.best(s, -2), BAD);
        }
        refused(LIVED.then(x -> { x.chest(0, 0); x.set(1, 0, 1); }), "six hands of five people", x -> x.best(0, NONE), STATE);
        refused(STUCK, "BAD is named ahead of STATE", x -> x.best(2, NONE), BAD);
        refused(STUCK, "BAD is named ahead of STATE", x -> x.best(-1, 0), BAD);
        asks(LIVED, "chest 1 must move, one key", x -> x.best(0, NONE), 1);
        asks(LIVED, "no ways", x -> x.best(1, NONE), 18);
        asks(onFirst(4), "eight keys", x -> x.best(0, NONE), 8);
    }

    private static void move() {
        Doc.says("`int move()`: THE LAYING truly becomes LEAST MOVED: how many keys. STATE: there are no LAYINGS.");
        refused(STUCK, "no layings", x -> x.move(), STATE);
        refused(plain(6, 4).then(x -> x.set(1, 0, 1)), "eight hands are too many", x -> x.move(), STATE);
        refused(CROWDED.then(x -> { x.lay(0, 0, 1); x.set(1, 0, 1); }), "too many", x -> x.move(), STATE);
        asks(NEW, "no chests: none moves", x -> x.move(), 0);
        TwoKeys x = made(onFirst(4));
        x.set(1, 0, 2);
        due("all eight", x.move(), 8);
        int[] want = {5, 5, 14, 14};
        for (int chest = 0; chest < 4; chest++) due("moved", x.chestTold(chest, 4), want[chest]);
        due("keys", x.lawful(2), 2);
        due("lawful", x.lawful(0), 1);
        due("none moves again", x.move(), 0);
        for (int chest = 0; chest < 4; chest++) due("as it was", x.chestTold(chest, 4), want[chest]);
        TwoKeys free = made(plain(6, 4));
        due("nobody holds: none moves, but all are held", free.move(), 0);
        due("all are held", free.lawful(0), 1);
        due("by the first", free.lawful(2), 4);
        TwoKeys y = made(LIVED);
        due("chest 1 moves a key", y.move(), 1);
        due("chest 0 stays", y.chestTold(0, 4), 1);
        due("to 0, 2: the first that holds one key on", y.chestTold(1, 4), 1);
    }
}
