/** Promises 30 to 34, and the term of sheets. */
final class EdgesOfHost extends Edge {
    static void run() {
        sheetsAtFirst();
        sheet();
        cell();
        copy();
        speaks();
        taken();
    }

    /** Item i of a sheet of this sort, if it is 0 .. 13, else NONE; sheet 3 is written over. */
    private static int item(TwoKeys x, int sheet, int sort, int i) {
        sheet(x, 3, sort, 0, 1, 0);
        due("copy of an item", x.copy(sheet, i, 3, 2, 1), 1);
        return x.speaks(3, sort, 0, 1) == 1 ? x.told(0, 1, 0) : NONE;
    }

    private static void items(String what, TwoKeys x, int sheet, int sort, int... want) {
        due(what + ": size", x.copy(sheet, 0, sheet, 0, want.length), want.length);
        due(what + ": size", x.copy(sheet, 0, sheet, 0, want.length + 1), OUTSIDE);
        for (int i = 0; i < want.length; i++) due(what + ": item " + i, item(x, sheet, sort, i), want[i]);
    }

    private static void sheetsAtFirst() {
        Doc.says("SHEETS 0 .. 3 are rows of numbers, or missing (as all are at first): of sort 0 bytes, 1 shorts, 2 ints.");
        for (int sheet = 0; sheet < 4; sheet++) {
            TwoKeys x = new TwoKeys();
            due("missing at first", x.cell(sheet, 0, 0), NOTHING);
            due("missing at first", x.judge(sheet), NOTHING);
            due("missing at first", x.place(sheet), NOTHING);
            due("missing at first", x.copy(sheet, 0, sheet, 0, 0), NOTHING);
            for (int sort = 0; sort < 3; sort++) {
                due("missing at first", x.speaks(sheet, sort, 0, 0), NOTHING);
                x.sheet(sheet, sort, 1);
                for (int other = 0; other < 3; other++) due("sort", x.speaks(sheet, other, 0, 0), other == sort ? 0 : OTHER_SORT);
                for (int others = 0; others < 4; others++) if (others != sheet) due("others", x.judge(others), NOTHING);
                x.sheet(sheet, -1, 0);
            }
        }
    }

    private static void sheet() {
        Doc.says("`int sheet(int sheet, int sort, int n)`: A SHEET becomes a row of n of a sort, all 0, or missing "
            + "(sort -1: n does not matter): 1. BAD: no such SHEET, sort; n above 40; -14.");
        range(LIVED, "sheet", (x, sheet) -> x.sheet(sheet, 0, 3), 0, 3, BAD);
        range(LIVED, "sheet that goes", (x, sheet) -> x.sheet(sheet, -1, 3), 0, 3, BAD);
        range(LIVED, "sort", (x, sort) -> x.sheet(1, sort, 3), -1, 2, BAD);
        range(NEW, "sort", (x, sort) -> x.sheet(3, sort, 40), -1, 2, BAD);
        for (int sort = 0; sort < 3; sort++) {
            int s = sort;
            for (int n : new int[] {41, 42, 1000, GREATEST}) refused(LIVED, "n above 40", x -> x.sheet(0, s, n), BAD);
            for (int n : new int[] {-1, -2, -40, -41, LEAST}) refused(LIVED, "n below 0", x -> x.sheet(0, s, n), BELOW_ZERO);
            for (int n : new int[] {-1, LEAST}) refused(LIVED, "n below 0, of none", x -> x.sheet(3, s, n), BELOW_ZERO);
            for (int n : new int[] {0, 1, 39, 40}) {
                TwoKeys x = made(LIVED);
                due("n", x.sheet(1, sort, n), 1);
                due("the last item", x.cell(1, n - 1, 0), n == 0 ? OUTSIDE : 1);
                due("behind it", x.cell(1, n, 0), OUTSIDE);
            }
            for (int n : new int[] {LEAST, -1, 0, 40, 41, GREATEST}) {
                TwoKeys x = made(LIVED);
                due("n does not matter", x.sheet(sort, -1, n), 1);
                due("missing", x.cell(sort, 0, 0), NOTHING);
                due("missing again", x.sheet(sort, -1, n), 1);
            }
        }
        refused(LIVED, "no such SHEET is named ahead of -14", x -> x.sheet(4, 0, -1), BAD);
        refused(LIVED, "no such SHEET is named ahead of -14", x -> x.sheet(-1, 2, LEAST), BAD);
        refused(LIVED, "no such sort is named ahead of -14", x -> x.sheet(0, 3, -1), BAD);
        refused(LIVED, "no such sort is named ahead of -14", x -> x.sheet(0, -2, -1), BAD);
        refused(LIVED, "no such SHEET, though it goes", x -> x.sheet(4, -1, 0), BAD);
        for (int was = 0; was < 3; was++) {
            for (int sort = 0; sort < 3; sort++) {
                TwoKeys x = new TwoKeys();
                sheet(x, 0, was, 9, 8, 7, 6, 5);
                x.sheet(0, sort, 5);
                items("all 0", x, 0, sort, 0, 0, 0, 0, 0);
                sheet(x, 0, was, 9, 8, 7, 6, 5);
                x.sheet(0, sort, 1);
                x.sheet(0, sort, 3);
                items("all 0, behind a shorter one", x, 0, sort, 0, 0, 0);
                sheet(x, 0, was, 9, 8);
                x.sheet(0, -1, 0);
                x.sheet(0, sort, 2);
                items("all 0, behind none", x, 0, sort, 0, 0);
            }
        }
    }

    private static void cell() {
        Doc.says("`int cell(int sheet, int i, int v)`: Item i of a SHEET becomes v (of bytes, shorts its lowest 8, 16 bits): 1. "
            + "BAD: no such SHEET; -11; -12.");
        Town all = LIVED.then(x -> x.sheet(3, 0, 1));
        range(all, "sheet", (x, sheet) -> x.cell(sheet, 0, 5), 0, 3, BAD);
        range(LIVED, "item", (x, i) -> x.cell(0, i, 5), 0, 3, OUTSIDE);
        range(LIVED, "item", (x, i) -> x.cell(1, i, 5), 0, 5, OUTSIDE);
        range(NEW.then(x -> x.sheet(0, 1, 40)), "item of 40", (x, i) -> x.cell(0, i, 5), 0, 39, OUTSIDE);
        for (int i : new int[] {-1, 0, 1, LEAST, GREATEST}) {
            refused(LIVED, "missing, whatever i", x -> x.cell(3, i, 5), NOTHING);
            refused(NEW.then(x -> x.sheet(0, 1, 0)), "of size 0", x -> x.cell(0, i, 5), OUTSIDE);
            refused(LIVED, "no such SHEET is named ahead of -12", x -> x.cell(4, i, 5), BAD);
        }
        int[][] rows = {
            // v, as a byte, as a short, as an int
            {0, 0, 0, 0}, {13, 13, 13, 13}, {14, NONE, NONE, NONE}, {-1, NONE, NONE, NONE},
            {255, NONE, NONE, NONE}, {256, 0, NONE, NONE}, {256 + 13, 13, NONE, NONE}, {5 - 256, 5, NONE, NONE},
            {127, NONE, NONE, NONE}, {128, NONE, NONE, NONE}, {-128, NONE, NONE, NONE}, {-256, 0, NONE, NONE},
            {65535, NONE, NONE, NONE}, {65536, 0, 0, NONE}, {65536 + 7, 7, 7, NONE}, {7 - 65536, 7, 7, NONE},
            {32767, NONE, NONE, NONE}, {32768, 0, NONE, NONE}, {32768 + 3, 3, NONE, NONE}, {-32768, 0, NONE, NONE},
            {LEAST, 0, 0, NONE}, {LEAST + 13, 13, 13, NONE}, {GREATEST, NONE, NONE, NONE}, {1 << 30, 0, 0, NONE},
        };
        for (int[] row : rows) {
            for (int sort = 0; sort < 3; sort++) {
                TwoKeys x = new TwoKeys();
                sheet(x, 0, sort, 1, 2, 3);
                due("cell", x.cell(0, 1, row[0]), 1);
                items("v " + row[0] + " of sort " + sort, x, 0, sort, 1, row[1 + sort], 3);
            }
        }
    }

    private static void copy() {
        Doc.says("`int copy(int sheet, int i, int other, int j, int n)`: n numbers of a SHEET, from item i on, "
            + "come to another one's item j on (as they were): n. BAD: no such SHEET; -11; "
            + "-13: they are of unlike sorts; -12 (also with n below 0).");
        Town pair = LIVED.then(x -> {
            sheet(x, 1, 0, 9, 8, 7);
            sheet(x, 3, 0, 5);
        });
        Town like = NEW.then(x -> {
            for (int s = 0; s < 4; s++) sheet(x, s, 1, s, s + 1, s + 2);
        });
        range(like, "sheet", (x, s) -> x.copy(s, 0, 1, 0, 1), 0, 3, BAD);
        range(like, "other", (x, s) -> x.copy(1, 0, s, 0, 1), 0, 3, BAD);
        // sheet 0 has 4 items, sheet 1 has 3
        range(pair, "i", (x, i) -> x.copy(0, i, 1, 0, 2), 0, 2, OUTSIDE);
        range(pair, "j", (x, j) -> x.copy(0, 0, 1, j, 2), 0, 1, OUTSIDE);
        range(pair, "n", (x, n) -> x.copy(0, 0, 1, 0, n), 0, 3, OUTSIDE);
        range(pair, "n, to the longer one", (x, n) -> x.copy(1, 0, 0, 0, n), 0, 3, OUTSIDE);
        range(pair, "n, from a later item on", (x, n) -> x.copy(0, 3, 1, 0, n), 0, 1, OUTSIDE);
        range(pair, "n, to a later item", (x, n) -> x.copy(0, 0, 1, 2, n), 0, 1, OUTSIDE);
        range(pair, "i, none of them", (x, i) -> x.copy(0, i, 1, 3, 0), 0, 4, OUTSIDE);
        range(pair, "j, none of them", (x, j) -> x.copy(0, 4, 1, j, 0), 0, 3, OUTSIDE);
        range(NEW.then(x -> x.sheet(0, 2, 0)), "n of size 0", (x, n) -> x.copy(0, 0, 0, 0, n), 0, 0, OUTSIDE);
        range(NEW.then(x -> x.sheet(0, 2, 40)), "n of 40", (x, n) -> x.copy(0, 0, 0, 0, n), 0, 40, OUTSIDE);
        refused(LIVED, "i", x -> x.copy(0, 3, 0, 0, 2), OUTSIDE);
        refused(LIVED, "j", x -> x.copy(1, 0, 1, 4, 3), OUTSIDE);
        refused(LIVED, "n", x -> x.copy(2, 0, 2, 0, -1), OUTSIDE);
        // sums that would wrap
        refused(pair, "i and n", x -> x.copy(0, GREATEST, 1, 0, GREATEST), OUTSIDE);
        refused(pair, "i and n", x -> x.copy(0, 1, 1, 0, GREATEST), OUTSIDE);
        refused(pair, "j and n", x -> x.copy(0, 0, 1, GREATEST, 1), OUTSIDE);
        refused(pair, "below 0", x -> x.copy(0, LEAST, 1, LEAST, LEAST), OUTSIDE);
        refused(pair, "below 0, though i and n fit together", x -> x.copy(0, 3, 1, 2, -1), OUTSIDE);
        refused(pair, "i below 0, though i and n fit together", x -> x.copy(0, -1, 1, 0, 1), OUTSIDE);
        // two reasons
        refused(pair, "no such SHEET, ahead of -11", x -> x.copy(4, 0, 3, 0, 0), BAD);
        refused(LIVED, "no such SHEET, ahead of -11", x -> x.copy(3, 0, 4, 0, 0), BAD);
        refused(LIVED, "no such other, ahead of -12", x -> x.copy(0, 9, -1, 9, -1), BAD);
        refused(LIVED, "-11 ahead of -12", x -> x.copy(3, -1, 0, 0, -1), NOTHING);
        refused(LIVED, "-11 ahead of -12", x -> x.copy(0, -1, 3, 0, -1), NOTHING);
        refused(LIVED, "-11 of both", x -> x.copy(3, 0, 3, 0, 0), NOTHING);
        for (int s = 0; s < 3; s++) {
            int one = s;
            refused(LIVED, "-11, whatever the sort", x -> x.copy(one, 0, 3, 0, 0), NOTHING);
            refused(LIVED, "-11, whatever the sort", x -> x.copy(3, 0, one, 0, 0), NOTHING);
            refused(LIVED, "unlike", x -> x.copy(one, 0, (one + 1) % 3, 0, 1), OTHER_SORT);
            refused(LIVED, "unlike, though none is asked", x -> x.copy(one, 0, (one + 2) % 3, 0, 0), OTHER_SORT);
            refused(LIVED, "-13 ahead of -12", x -> x.copy(one, -1, (one + 1) % 3, 99, -1), OTHER_SORT);
        }
        copiedItems();
    }

    private static void copiedItems() {
        for (int sort = 0; sort < 3; sort++) {
            TwoKeys x = new TwoKeys();
            sheet(x, 0, sort, 1, 2, 3, 4, 5);
            due("to the right, over itself", x.copy(0, 0, 0, 1, 4), 4);
            items("as they were", x, 0, sort, 1, 1, 2, 3, 4);
            sheet(x, 0, sort, 1, 2, 3, 4, 5);
            due("to the left, over itself", x.copy(0, 2, 0, 0, 3), 3);
            items("as they were", x, 0, sort, 3, 4, 5, 4, 5);
            due("onto itself", x.copy(0, 1, 0, 1, 4), 4);
            items("as they were", x, 0, sort, 3, 4, 5, 4, 5);
            sheet(x, 1, sort, 9, 9, 9);
            due("to another one", x.copy(0, 2, 1, 1, 2), 2);
            items("there", x, 1, sort, 9, 5, 4);
            items("it stays here", x, 0, sort, 3, 4, 5, 4, 5);
            due("none", x.copy(0, 5, 1, 3, 0), 0);
            items("none came", x, 1, sort, 9, 5, 4);
            due("all", x.copy(1, 0, 0, 2, 3), 3);
            items("all came", x, 0, sort, 3, 4, 9, 5, 4);
        }
        // an int is not cut on its way
        TwoKeys x = made(plain(6, 1));
        sheet(x, 0, 2, 256);
        sheet(x, 1, 2, 0);
        x.copy(0, 0, 1, 0, 1);
        due("256 is no pair", x.place(1), NONE);
    }

    private static void speaks() {
        Doc.says("`int speaks(int sheet, int sort, int from, int n)`: Who SPEAKS, by a SHEET that is taken for one of a sort: "
            + "from one on, three by three (as of speak()), n of them (0 .. 13): how many became so (others are left out). "
            + "BAD: no such SHEET, sort, n; -13; -11; -12: what stood ahead became so.");
        Town ints = NEW.then(x -> {
            for (int s = 0; s < 4; s++) x.sheet(s, 2, 39);
        });
        range(ints, "sheet", (x, s) -> x.speaks(s, 2, 0, 13), 0, 3, BAD);
        range(ints, "n", (x, n) -> x.speaks(0, 2, 0, n), 0, 13, BAD);
        range(ints, "from, one of them", (x, from) -> x.speaks(0, 2, from, 1), 0, 36, OUTSIDE);
        range(ints, "from, 13 of them", (x, from) -> x.speaks(0, 2, from, 13), 0, 0, OUTSIDE);
        range(NEW.then(x -> x.sheet(0, 0, 40)), "from, 13 of them", (x, from) -> x.speaks(0, 0, from, 13), 0, 1, OUTSIDE);
        range(NEW.then(x -> x.sheet(0, 0, 3)), "from, of 3 items", (x, from) -> x.speaks(0, 0, from, 1), 0, 0, OUTSIDE);
        for (int sort : new int[] {-1, 3, -2, 4, LEAST, GREATEST}) {
            refused(LIVED, "no such sort", x -> x.speaks(0, sort, 0, 1), BAD);
            refused(LIVED, "no such sort, ahead of -11", x -> x.speaks(3, sort, 0, 1), BAD);
        }
        for (int size = 0; size < 3; size++) {
            int s = size;
            refused(NEW.then(x -> x.sheet(0, 1, s)), "too short for one", x -> x.speaks(0, 1, 0, 1), OUTSIDE);
            asks(NEW.then(x -> x.sheet(0, 1, s)), "none of them", x -> x.speaks(0, 1, 0, 0), 0);
        }
        int[] sorts = {0, 2, 1};
        for (int s = 0; s < 3; s++) {
            for (int sort = 0; sort < 3; sort++) {
                int one = s, as = sort;
                if (sort == sorts[s]) continue;
                refused(LIVED, "of another sort", x -> x.speaks(one, as, 0, 1), OTHER_SORT);
                refused(LIVED, "of another sort, though none is asked", x -> x.speaks(one, as, 0, 0), OTHER_SORT);
                refused(LIVED, "-13 ahead of -12", x -> x.speaks(one, as, 99, 13), OTHER_SORT);
                refused(LIVED, "BAD ahead of -13", x -> x.speaks(one, as, 0, 14), BAD);
                refused(LIVED, "BAD ahead of -13", x -> x.speaks(one, as, 0, -1), BAD);
            }
        }
        for (int sort = 0; sort < 3; sort++) {
            int as = sort;
            refused(LIVED, "missing", x -> x.speaks(3, as, 0, 0), NOTHING);
            refused(LIVED, "-11 ahead of -12", x -> x.speaks(3, as, -1, 13), NOTHING);
            refused(LIVED, "BAD ahead of -11", x -> x.speaks(3, as, 0, 14), BAD);
            refused(LIVED, "no such SHEET", x -> x.speaks(4, as, 0, 0), BAD);
        }
        becameSo();
    }

    private static void becameSo() {
        for (int sort = 0; sort < 3; sort++) {
            TwoKeys x = new TwoKeys();
            // good, himself, month 14, month -1, not there, not there, never, the other way round
            sheet(x, 0, sort, 0, 1, 5, 2, 2, 1, 2, 3, 14, 2, 3, -1, 0, 5, 1, -1, 0, 1, 0, 2, 13, 4, 3, 12);
            due("others are left out", x.speaks(0, sort, 0, 8), 3);
            due("0, 1", x.told(0, 1, 0), 5);
            due("2, 3", x.told(2, 3, 0), 13);
            due("3, 4", x.told(3, 4, 0), 12);
            due("they count, though it was so", x.speaks(0, sort, 0, 8), 3);
            due("none of them", x.speaks(0, sort, 0, 0), 0);
            due("the last one alone", x.speaks(0, sort, 21, 1), 1);
            x.set(0, 0, 5);
            due("ways are told anew", x.told(0, 1, 1), 0);
        }
        TwoKeys last = made(plain(6, 0));
        sheet(last, 2, 1, 4, 5, 0, 0, 0, 0, 5, 4, 2);
        due("one behind the other: the later one stands", last.speaks(2, 1, 0, 3), 2);
        due("4, 5", last.told(4, 5, 0), 2);
        due("they speak not yet", last.count(7), 0);
        TwoKeys all = made(plain(6, 0));
        all.sheet(0, 0, 39);
        int i = 0;
        for (int b = 1; b < 6 && i < 13; b++) {
            for (int a = 0; a < b && i < 13; a++) {
                all.cell(0, 3 * i, a);
                all.cell(0, 3 * i + 1, b);
                i++;
            }
        }
        due("thirteen", all.speaks(0, 0, 0, 13), 13);
        due("thirteen speak", all.count(7), 13);
        outside();
    }

    private static void outside() {
        for (int size = 6; size <= 8; size++) {
            for (int n = 3; n <= 13; n += 5) {
                TwoKeys x = new TwoKeys();
                sheet(x, 0, 0, 0, 1, 4, 1, 2, 6);
                x.sheet(1, 0, size);
                x.copy(0, 0, 1, 0, 6);
                x.cell(1, 6, 2);
                x.cell(1, 7, 3);
                due("the third is outside", x.speaks(1, 0, 0, n), OUTSIDE);
                due("what stood ahead became so", x.told(0, 1, 0), 4);
                due("what stood ahead became so", x.told(1, 2, 0), 6);
                due("no more", x.told(2, 3, 0), 13);
                x.set(0, 0, 6);
                due("ways are told anew", x.told(0, 2, 1), 1);
            }
        }
        Town six = NEW.then(x -> sheet(x, 0, 2, 0, 1, 4, 1, 2, 6));
        for (int from : new int[] {-1, -2, -3, -6, 4, 5, 6, 7, LEAST, GREATEST, GREATEST - 1, GREATEST - 2, LEAST + 1}) {
            for (int n = 1; n <= 13; n += 6) {
                int m = n;
                refused(six, "the first is outside", x -> x.speaks(0, 2, from, m), OUTSIDE);
            }
        }
        for (int from : new int[] {-1, 2, 4, LEAST, GREATEST}) {
            refused(LIVED, "the first is outside", x -> x.speaks(0, 0, from, 1), OUTSIDE);
        }
        asks(six, "no place is asked", x -> x.speaks(0, 2, 6, 0), 0);
        // beside what stood ahead nothing changed
        Town ahead = LIVED.then(x -> x.speaks(0, 0, 0, 2));
        asks(ahead, "again the same ahead", x -> x.speaks(0, 0, 0, 2), OUTSIDE);
        due("row 0 is 0, 3, 1", made(ahead).told(0, 3, 0), 1);
    }

    private static void taken() {
        Doc.says("`int taken(int chest, int k)`: A CHEST taken for one of KIND k (0 .. 5), or one under that one "
            + "(also by others between): its NUMBER. BAD: k; -11: no such CHEST; -13.");
        // KINDS that are k, or under it
        String[] under = {"012345", "135", "24", "3", "4", "5"};
        for (int kind = 0; kind < 6; kind++) {
            int own = kind;
            Town town = LIVED.then(x -> x.chest(own, 990 + own));
            for (int k = 0; k < 6; k++) {
                int as = k;
                boolean isOne = under[k].indexOf((char) ('0' + kind)) >= 0;
                asks(town, kind + " taken for " + k, x -> x.taken(2, as), isOne ? kind : OTHER_SORT);
            }
            range(town, "k", (x, k) -> x.taken(2, k), 0, 5, BAD);
        }
        for (int k = 0; k < 6; k++) {
            int as = k;
            range(CROWDED, "chest", (x, chest) -> x.taken(chest, as), 0, 3, NOTHING);
            range(LIVED, "chest", (x, chest) -> x.taken(chest, as), 0, 1, NOTHING);
            refused(NEW, "no chests", x -> x.taken(0, as), NOTHING);
        }
        for (int k : new int[] {-1, 6, LEAST, GREATEST}) {
            refused(NEW, "BAD is named ahead of -11", x -> x.taken(0, k), BAD);
            refused(LIVED, "BAD is named ahead of -11", x -> x.taken(-1, k), BAD);
            refused(LIVED, "BAD is named ahead of -11", x -> x.taken(GREATEST, k), BAD);
        }
        TwoKeys x = made(LIVED);
        x.set(2, 0, 0);
        due("number 0", x.taken(0, 1), 0);
        x.set(2, 0, 9);
        due("number 9", x.taken(0, 0), 9);
    }
}
