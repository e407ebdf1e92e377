/** Promises 21 to 29, and the terms of bands, sheets of rows, towns that are drawn, the image. */
final class EdgesOfBands extends Edge {
    static void run() {
        openedBySome();
        fewest();
        must();
        judged();
        placed();
        drawnTowns();
        imageKeeps();
        opened();
        band();
        judge();
        place();
        drawn();
        chance();
        image();
        back();
        count();
    }

    /** n people in a line, each speaking with the next; chest 0 is held by the two ends. */
    private static Town line(int n, int chests) {
        return plain(n, chests).then(x -> {
            for (int p = 0; p + 1 < n; p++) x.speak(p, p + 1, 0);
            if (chests > 0) x.lay(0, 0, n - 1);
        });
    }

    /** Chest 0 is held by 0 and 5, chest 1 by 1 and 4, chest 2 by 2 and 3, chest 3 by nobody. */
    private static final Town LINE = line(6, 4).then(x -> {
        x.lay(1, 1, 4);
        x.lay(2, 3, 2);
    });

    private static void openedBySome() {
        Doc.says("OPENED by some people (bits): a CHEST that is held by two of them between whom there is a way, "
            + "each on it SPEAKING with the next one, and all on it being of them.");
        for (int n = 2; n <= 6; n++) {
            TwoKeys x = made(line(n, 1));
            int all = (1 << n) - 1;
            for (int set = 0; set <= all; set++) due("a line of " + n + ", set " + set, x.opened(set), set == all ? 1 : 0);
            // the other way round about: a ring opens by either side
            if (n > 3) {
                x.lay(0, 0, 2);
                x.speak(0, n - 1, 0);
                int left = 7, right = all - 2;
                for (int set = 0; set <= all; set++) {
                    boolean opens = (set & left) == left || (set & right) == right;
                    due("a ring of " + n + ", set " + set, x.opened(set), opens ? 1 : 0);
                }
            }
        }
        TwoKeys x = made(LINE);
        for (int set = 0; set < 64; set++) {
            int want = ((set & 12) == 12 ? 4 : 0) + ((set & 30) == 30 ? 2 : 0) + (set == 63 ? 1 : 0);
            due("set " + set, x.opened(set), want);
        }
        // the way leads over a later one to an earlier one
        TwoKeys back = made(plain(6, 1));
        back.lay(0, 0, 1);
        back.speak(0, 5, 0);
        back.speak(5, 2, 0);
        back.speak(2, 4, 0);
        back.speak(4, 1, 0);
        due("0 5 2 4 1", back.opened(55), 1);
        due("without 2", back.opened(51), 0);
        due("without 5", back.opened(23), 0);
        // as of the month
        TwoKeys later = made(plain(2, 1));
        later.lay(0, 0, 1);
        later.speak(0, 1, 12);
        later.set(0, 0, 11);
        due("not yet", later.opened(3), 0);
        later.set(0, 0, 12);
        due("now", later.opened(3), 1);
        due("one alone", later.opened(1) + later.opened(2), 0);
        later.people(2);
        due("nobody holds it any more", later.opened(3), 0);
        later.lay(0, 0, 1);
        due("none speaks any more", later.opened(3), 0);
    }

    private static void fewest() {
        Doc.says("FEWEST who could open a told set of CHESTS: the fewest people (of like ones the least as bits) "
            + "by whom all of it is OPENED; NONE.");
        for (int n = 2; n <= 6; n++) {
            TwoKeys x = made(line(n, 2));
            due("all of them", x.band(1, 0), (1 << n) - 1);
            due("how many", x.band(1, 1), n);
            due("no chest: nobody is needed", x.band(0, 0), 0);
            due("no chest: nobody is needed", x.band(0, 1), 0);
            due("nobody holds it", x.band(2, 0), NONE);
            due("nobody holds one of them", x.band(3, 1), NONE);
        }
        int[] want = {0, 63, 30, 63, 12, 63, 30, 63};
        TwoKeys x = made(LINE);
        for (int chests = 0; chests < 16; chests++) due("chests " + chests, x.band(chests, 0), chests < 8 ? want[chests] : NONE);
        // 0 and 1 over 2, 3, 4 or 5: like many, the least as bits
        TwoKeys like = made(plain(6, 1));
        like.lay(0, 0, 1);
        for (int p = 5; p >= 2; p--) {
            like.speak(0, p, 0);
            like.speak(p, 1, 0);
            due("over " + p, like.band(1, 0), 3 + (1 << p));
        }
        // fewer people, though more as bits
        TwoKeys fewer = made(plain(6, 1));
        fewer.lay(0, 0, 4);
        for (int p = 0; p < 4; p++) fewer.speak(p, p + 1, 0);
        fewer.speak(0, 5, 0);
        fewer.speak(5, 4, 0);
        due("0, 5, 4", fewer.band(1, 0), 1 + 16 + 32);
        due("three", fewer.band(1, 1), 3);
    }

    private static void must() {
        Doc.says("MUST: people (bits) who are in every set by which it is; 0, if none is.");
        for (int n = 2; n <= 6; n++) {
            TwoKeys x = made(line(n, 2));
            due("all of a line", x.band(1, 2), (1 << n) - 1);
            due("no chest: the empty set does", x.band(0, 2), 0);
            due("none is", x.band(2, 2), 0);
            due("none is", x.band(3, 2), 0);
            for (int p = 0; p + 1 < n; p++) x.speak(p, p + 1, 13);
            due("no way", x.band(1, 2), 0);
            x.speak(0, n - 1, 0);
            due("the two", x.band(1, 2), (1 << (n - 1)) + 1);
        }
        int[] want = {0, 63, 30, 63, 12, 63, 30, 63};
        TwoKeys x = made(LINE);
        for (int chests = 0; chests < 16; chests++) due("chests " + chests, x.band(chests, 2), chests < 8 ? want[chests] : 0);
        // a ring of six: 0 and 3 by either side
        TwoKeys ring = made(line(6, 1));
        ring.speak(0, 5, 0);
        ring.lay(0, 0, 3);
        due("the two alone", ring.band(1, 2), 9);
        due("the fewest are more", ring.band(1, 0), 15);
    }

    private static void judged() {
        Doc.says("JUDGED: a SHEET tells rows of two, a CHEST and a PAIR's number, by which keys are handed over "
            + "one behind the other, from THE LAYING on: the first (from 0) that is none such, "
            + "or behind which anybody holds more than MOST keys; NONE.");
        for (int sort = 0; sort < 3; sort++) {
            for (int wrong : new int[] {-1, 2, 127, -128, LEAST + 77, GREATEST}) {
                TwoKeys x = made(plain(3, 2));
                sheet(x, 0, sort, 0, 0, 1, 1, wrong, 0, wrong, 0);
                due("no such chest", x.judge(0), 2);
                sheet(x, 0, sort, wrong, 0);
                due("no such chest, the first row", x.judge(0), 0);
            }
            for (int wrong : new int[] {-1, 3, 127, -128, LEAST + 77, GREATEST}) {
                TwoKeys x = made(plain(3, 2));
                sheet(x, 0, sort, 0, 2, 1, wrong);
                due("no such pair", x.judge(0), 1);
            }
        }
        TwoKeys ints = made(plain(3, 2));
        sheet(ints, 0, 2, 256, 0);
        due("an int is not cut", ints.judge(0), 0);
        sheet(ints, 0, 2, 0, 65536);
        due("an int is not cut", ints.judge(0), 0);
        sheet(ints, 0, 1, 0, 256);
        due("a short is not cut to a byte", ints.judge(0), 0);
        sheet(ints, 0, 1, 65536 + 1, 65536 + 2);
        due("a short's lowest 16 bits", ints.judge(0), NONE);
        sheet(ints, 0, 0, 256 + 1, 512 + 2);
        due("a byte's lowest 8 bits", ints.judge(0), NONE);
        // pairs by how many people there are
        for (int n = 2; n <= 6; n++) {
            TwoKeys x = made(plain(n, 1));
            int pairs = n * (n - 1) / 2;
            sheet(x, 0, 0, 0, pairs - 1);
            due("the last pair of " + n, x.judge(0), NONE);
            sheet(x, 0, 0, 0, pairs);
            due("no pair of " + n, x.judge(0), 0);
        }
        // 20 rows, the last of which is wrong or right
        TwoKeys x = made(plain(6, 4));
        x.sheet(0, 0, 40);
        due("20 rows of chest 0 on pair 0", x.judge(0), NONE);
        x.cell(0, 39, 15);
        due("the last pair is none", x.judge(0), 19);
        x.cell(0, 39, 14);
        x.cell(0, 38, 4);
        due("the last chest is none", x.judge(0), 19);
        // most: handed over one behind the other
        x.set(1, 0, 1);
        sheet(x, 1, 1, 0, 0, 1, 5, 0, 14, 2, 0, 3, 1);
        due("0, 1 again, then 0, 2", x.judge(1), 4);
        sheet(x, 1, 1, 0, 0, 1, 5, 2, 0, 0, 14);
        due("2 too early, though it would be mended behind it", x.judge(1), 2);
        x.set(1, 0, 2);
        due("two each may hold", x.judge(1), NONE);
        // from THE LAYING on; anybody, also one whom no row names
        x.set(1, 0, 1);
        x.lay(2, 4, 5);
        x.lay(3, 4, 5);
        sheet(x, 1, 2, 0, 0);
        due("4, 5 hold too many", x.judge(1), 0);
        sheet(x, 1, 2, 3, 0);
        due("mended by the first row", x.judge(1), NONE);
        sheet(x, 1, 2);
        due("behind no row", x.judge(1), NONE);
        // whether it may be LAID so does not matter
        TwoKeys speak = made(plain(2, 1));
        speak.speak(0, 1, 0);
        sheet(speak, 0, 0, 0, 0);
        due("they speak", speak.judge(0), NONE);
        sheet(new TwoKeys(), 0, 0, 0, 0);
        TwoKeys none = new TwoKeys();
        sheet(none, 0, 0, 0, 0);
        due("no chests", none.judge(0), 0);
    }

    private static void placed() {
        Doc.says("PLACE: a SHEET tells numbers of PAIRS for all CHESTS: how many LAYINGS are ahead of that one; "
            + "NONE: it is no LAYING.");
        for (int n = 2; n <= 6; n++) {
            int pairs = n * (n - 1) / 2;
            for (int sort = 0; sort < 3; sort++) {
                TwoKeys x = made(plain(n, 1));
                for (int pair = 0; pair < pairs; pair++) {
                    sheet(x, 3, sort, pair);
                    due("pair " + pair + " of " + n, x.place(3), pair);
                }
                for (int wrong : new int[] {-1, pairs, 15, 16, 31, 32 + 128, -128, 127, GREATEST, LEAST + 77}) {
                    sheet(x, 3, sort, wrong);
                    due("no pair " + wrong + " of " + n, x.place(3), NONE);
                }
            }
            int rows = pairs * pairs * pairs * pairs;
            TwoKeys all = made(plain(n, 4));
            sheet(all, 0, 0, 0, 0, 0, 0);
            due("the first of all", all.place(0), 0);
            sheet(all, 0, 0, pairs - 1, pairs - 1, pairs - 1, pairs - 1);
            due("the last of all", all.place(0), rows - 1);
            sheet(all, 0, 0, pairs - 1, 0, 0, 0);
            due("chest 0 first", all.place(0), (pairs - 1) * pairs * pairs * pairs);
            sheet(all, 0, 0, 0, 0, 0, pairs - 1);
            due("chest 3 last", all.place(0), pairs - 1);
        }
        TwoKeys ints = made(plain(6, 1));
        for (int v : new int[] {32, 64, 256, 65536, 1 << 30, LEAST, 32 + 14, LEAST + 5}) {
            sheet(ints, 0, 2, v);
            due("an int is not cut: " + v, ints.place(0), NONE);
        }
        // most: 4 chests, 6 people, one wrong chest at each place
        TwoKeys most = made(plain(6, 3));
        most.set(1, 0, 1);
        due("15 * 6 * 1 rows", most.lawful(1), 90);
        sheet(most, 0, 1, 0, 5, 14);
        due("the first", most.place(0), 0);
        sheet(most, 0, 1, 14, 5, 0);
        due("the last", most.place(0), 89);
        sheet(most, 0, 1, 14, 0, 5);
        due("ahead of it", most.place(0), 84);
        for (int[] row : new int[][] {{0, 0, 5}, {0, 5, 5}, {0, 5, 0}, {0, 5, 3}, {0, 14, 14}, {14, 13, 0}}) {
            sheet(most, 0, 1, row);
            due("somebody has two", most.place(0), NONE);
        }
        TwoKeys none = new TwoKeys();
        none.sheet(0, 0, 0);
        due("no chests: the empty row", none.place(0), 0);
    }

    private static long month(long seed, int pair) {
        long z = seed & 0xffffffffL;
        for (int i = 0; i <= pair; i++) z = (z * 1103515245L + 12345) % (1L << 32);
        return z / 512 % 14;
    }

    private static void drawnTowns() {
        Doc.says("DRAWN by a SEED: for each PAIR, by numbers, z = z * 1103515245 + 12345 (an int; SEED at first): "
            + "did it SPEAK from (z >>> 9) % 14 on: how many LAYINGS there were.");
        int[] seeds = {0, 1, -1, 2, 5, 77, LEAST, LEAST + 1, GREATEST, GREATEST - 1, 1 << 30, -12345, 3, 4, 9, 10, 123456789};
        for (int seed : seeds) {
            for (int n = 2; n <= 6; n++) {
                TwoKeys x = made(plain(n, 1));
                TwoKeys two = made(plain(n, 2));
                for (int now = 0; now <= 12; now++) {
                    int free = 0;
                    for (int pair = 0; pair < n * (n - 1) / 2; pair++) free += month(seed, pair) > now ? 1 : 0;
                    x.set(0, 0, now);
                    due("seed " + seed + ", " + n + " people, month " + now, x.drawn(seed), free);
                    two.set(0, 0, now);
                    due("two chests", two.drawn(seed), free * free);
                }
            }
        }
        // by hand: 12345 >>> 9 is 24, and that 10
        TwoKeys x = made(plain(2, 1));
        x.set(0, 0, 9);
        due("seed 0, month 9", x.drawn(0), 1);
        x.set(0, 0, 10);
        due("seed 0, month 10", x.drawn(0), 0);
        // by hand: 12345 - 1103515245 is -1103502900; >>> 9 is 6233328, and that 10
        due("seed -1, month 10", x.drawn(-1), 0);
        x.set(0, 0, 9);
        due("seed -1, month 9", x.drawn(-1), 1);
        // by hand: 1103527590 >>> 9 is 2155327, and that 13: never
        x.set(0, 0, 12);
        due("seed 1, the last month", x.drawn(1), 1);
        // keys and most as they are, ways as drawn
        TwoKeys far = made(ruled("may far=9;costs 1;fears 1;").then(plain(2, 1)));
        far.set(0, 0, 9);
        due("no way", far.drawn(0), 1);
        far.speak(0, 1, 0);
        due("who speaks now does not matter", far.drawn(0), 1);
        TwoKeys ways = made(ruled("may far=1;costs 1;fears 1;").then(plain(3, 1)));
        ways.set(0, 0, 12);
        for (int seed : seeds) {
            int free = 0;
            for (int pair = 0; pair < 3; pair++) free += month(seed, pair) > 12 ? 1 : 0;
            due("one goes between them, seed " + seed, ways.drawn(seed), free == 1 ? 1 : 0);
        }
        due("no chests", new TwoKeys().drawn(7), 1);
        TwoKeys keys = made(ruled("may keys<1;costs 1;fears 1;").then(plain(2, 1)));
        keys.set(0, 0, 9);
        due("nobody has keys", keys.drawn(0), 1);
        keys.lay(0, 0, 1);
        due("keys by the laying as it is", keys.drawn(0), 0);
    }

    private static void imageKeeps() {
        Doc.says("AN IMAGE keeps PEOPLE, who SPEAKS from when, THE MONTH, THE LAYING, MOST, THE RULE (CHESTS that came since go).");
        for (int before = 0; before <= 4; before++) {
            for (int since = 0; before + since <= 4; since++) {
                TwoKeys x = made(plain(5, before));
                x.image();
                for (int i = 0; i < since; i++) x.chest(5, 55);
                due("chests came", x.count(1), before + since);
                x.back();
                due("they went", x.count(1), before);
                due("none such", x.chestTold(before, 0), BAD);
                for (int i = before; i < 4; i++) due("there is room again", x.chest(1, 11), i);
                due("full again", x.chest(1, 11), FULL);
                if (before < 4) due("of its own kind", x.chestTold(3, 0) * 100 + x.chestTold(3, 2) * 10 + x.chestTold(3, 1), 111);
                if (before < 4) due("nobody holds it", x.chestTold(3, 4), NONE);
            }
        }
        Town town = LIVED.then(x -> x.image());
        asks(town, "people", x -> x.people(6) + x.back(), 5 + 5);
        asks(town, "as many people as there were", x -> x.people(5) + x.back(), 5 + 5);
        asks(town, "who speaks", x -> x.speak(0, 1, 0) + x.back(), 3 + 5);
        asks(town, "the month", x -> x.set(0, 0, 12) + x.back(), 2 + 5);
        asks(town, "the laying", x -> x.lay(0, 3, 4) + x.back(), 1 + 5);
        asks(town, "nobody holds", x -> x.lay(1, -1, 4) + x.back(), 5 + 5);
        asks(town, "most", x -> x.set(1, 0, 1) + x.back(), 3 + 5);
        asks(town, "the rule", x -> x.force(1) + x.back(), 0 + 5);
        asks(town, "a move", x -> x.move() + x.back(), 1 + 5);
        asks(town, "chests that came", x -> x.chest(3, 33) + x.lay(2, 0, 1) + x.back(), 2 + NONE + 5);
        asks(town, "nothing was changed", x -> x.back(), 5);
        asks(town, "again and again", x -> x.back() + x.back() + x.back(), 15);
        // what it does not keep
        TwoKeys x = made(town);
        x.set(2, 0, 8);
        x.set(3, 0, 77);
        int tape = x.feed(32);
        x.sheet(0, 2, 40);
        x.back();
        due("NUMBER", x.chestTold(0, 1), 8);
        due("GOLD", x.chestTold(0, 2), 77);
        due("THE TAPE", x.count(5), tape);
        due("a SHEET", x.cell(0, 39, 1), 1);
        x.text();
        due("TEXTS", read(x, PLAIN_TEXT), 2);
        x.force(2);
        x.back();
        due("TEXTS stay", x.count(4), 3);
        due("THE RULE doesn't", x.count(6), 0);
    }

    private static void opened() {
        Doc.says("`int opened(int set)`: CHESTS (bits) that are OPENED by some people (bits). BAD.");
        for (int n = 2; n <= 6; n++) range(line(n, 1), "opened of " + n, (x, set) -> x.opened(set), 0, (1 << n) - 1, BAD);
        range(LIVED, "opened", (x, set) -> x.opened(set), 0, 31, BAD);
        asks(LIVED, "the empty set", x -> x.opened(0), 0);
        asks(LIVED, "all", x -> x.opened(31), 2);
        asks(LINE, "all", x -> x.opened(63), 7);
        asks(NEW, "no chests", x -> x.opened(31), 0);
        refused(LINE, "one more with all", x -> x.opened(127), BAD);
        refused(LINE, "the highest bit", x -> x.opened(LEAST | 63), BAD);
    }

    private static void band() {
        Doc.says("`int band(int chests, int what)`: FEWEST (what 0, bits), how many (1), MUST (2) for CHESTS (bits). "
            + "BAD; NONE (not of MUST).");
        for (int chests = 0; chests <= 4; chests++) {
            for (int what = 0; what < 3; what++) {
                int w = what;
                range(plain(3, chests), "band of " + chests, (x, set) -> x.band(set, w), 0, (1 << chests) - 1, BAD);
            }
        }
        range(LIVED, "band", (x, set) -> x.band(set, 0), 0, 3, BAD);
        range(LIVED, "band what", (x, what) -> x.band(3, what), 0, 2, BAD);
        range(LINE, "band what", (x, what) -> x.band(7, what), 0, 2, BAD);
        range(NEW, "band what", (x, what) -> x.band(0, what), 0, 2, BAD);
        refused(LINE, "BAD is named ahead of NONE", x -> x.band(8, 3), BAD);
        refused(LINE, "BAD is named ahead of NONE", x -> x.band(8, -1), BAD);
        refused(LINE, "BAD is named ahead of NONE", x -> x.band(24, 0), BAD);
        refused(LINE, "the highest bit", x -> x.band(LEAST | 1, 2), BAD);
        asks(LINE, "NONE", x -> x.band(8, 0), NONE);
        asks(LINE, "NONE", x -> x.band(15, 1), NONE);
        asks(LINE, "not of MUST", x -> x.band(15, 2), 0);
        asks(LINE, "six", x -> x.band(7, 1), 6);
        asks(LINE, "four", x -> x.band(6, 1), 4);
        asks(LINE, "none for none", x -> x.band(0, 1), 0);
    }

    private static void judge() {
        Doc.says("`int judge(int sheet)`: JUDGED. BAD: SHEET; -11; BAD: its size is odd; NONE.");
        Town sheets = LIVED.then(x -> sheet(x, 3, 0, 0, 0));
        range(sheets.then(x -> x.sheet(2, 1, 2)), "judge", (x, s) -> x.judge(s), 0, 3, BAD);
        asks(NEW, "missing", x -> x.judge(0), NOTHING);
        asks(LIVED, "missing", x -> x.judge(3), NOTHING);
        for (int s : new int[] {-1, 4, LEAST, GREATEST}) refused(LIVED, "no such SHEET", x -> x.judge(s), BAD);
        refused(LIVED, "odd", x -> x.judge(2), BAD);
        asks(LIVED, "row 1 is 1, 1", x -> x.judge(0), NONE);
        asks(LIVED, "row 0 is 4, 0", x -> x.judge(1), 0);
        for (int size : new int[] {1, 3, 39}) {
            for (int sort = 0; sort < 3; sort++) {
                int s = sort;
                refused(LIVED.then(x -> x.sheet(2, s, size)), "odd", x -> x.judge(2), BAD);
            }
        }
        for (int size : new int[] {0, 2, 38, 40}) asks(LIVED.then(x -> x.sheet(2, 0, size)), "even", x -> x.judge(2), NONE);
        refused(LIVED.then(x -> sheet(x, 2, 2, 9, 9, 9)), "odd, ahead of the first row", x -> x.judge(2), BAD);
        refused(NEW.then(x -> x.sheet(2, 2, 1)), "odd, though there are no chests", x -> x.judge(2), BAD);
        asks(LIVED.then(x -> { x.sheet(2, 0, 3); x.sheet(2, -1, 3); }), "missing again", x -> x.judge(2), NOTHING);
    }

    private static void place() {
        Doc.says("`int place(int sheet)`: PLACE. BAD: SHEET; -11; BAD: its size isn't how many CHESTS there are; NONE.");
        Town sheets = LIVED.then(x -> {
            for (int s = 0; s < 4; s++) sheet(x, s, s % 3, 0, 0);
        });
        range(sheets, "place", (x, s) -> x.place(s), 0, 3, BAD);
        asks(sheets, "chest 1 may be laid on pair 0", x -> x.place(0), 0);
        asks(NEW, "missing", x -> x.place(0), NOTHING);
        asks(LIVED, "missing", x -> x.place(3), NOTHING);
        for (int s : new int[] {-1, 4, LEAST, GREATEST}) refused(LIVED, "no such SHEET", x -> x.place(s), BAD);
        for (int s = 0; s < 3; s++) {
            int other = s;
            refused(LIVED, "another size", x -> x.place(other), BAD);
        }
        for (int chests = 0; chests <= 4; chests++) {
            for (int size : new int[] {chests - 1, chests + 1, 40}) {
                if (size < 0) continue;
                refused(plain(3, chests).then(x -> x.sheet(1, 2, size)), "size " + size + " of " + chests, x -> x.place(1), BAD);
            }
            int all = chests;
            asks(plain(3, chests).then(x -> x.sheet(1, 2, all)), "as many as chests", x -> x.place(1), 0);
        }
        refused(LIVED.then(x -> sheet(x, 2, 2, 99)), "its size, ahead of a wrong pair", x -> x.place(2), BAD);
        asks(STUCK.then(x -> sheet(x, 2, 2, 0, 0)), "no layings", x -> x.place(2), NONE);
        asks(LIVED.then(x -> sheet(x, 2, 2, 99, 0)), "no pair", x -> x.place(2), NONE);
    }

    private static void drawn() {
        Doc.says("`int drawn(int seed)`: DRAWN.");
        asks(LIVED, "drawn(0)", x -> x.drawn(0), made(LIVED).drawn(0));
        for (int seed : new int[] {LEAST, -1, 0, 1, GREATEST}) {
            int free = 0;
            for (int pair = 0; pair < 15; pair++) free += month(seed, pair) > 6 ? 1 : 0;
            asks(plain(6, 4).then(x -> x.set(0, 0, 6)), "drawn(" + seed + ")", x -> x.drawn(seed), free * free * free * free);
        }
        Town talk = STUCK.then(x -> x.set(1, 0, 4));
        int free = 0;
        for (int pair = 0; pair < 3; pair++) free += month(3, pair) > 0 ? 1 : 0;
        // chest 1 is PROUD, and its NUMBER is 1: pair 0 has b 1
        asks(talk, "drawn(3)", x -> x.drawn(3), free * (free - (month(3, 0) > 0 ? 1 : 0)));
    }

    private static void chance() {
        Doc.says("`long chance(int seed, int many, int part)`: In how many of 1 .. 8 seeds, SEED and each 1 more (an int), "
            + "there is any, DRAWN: part 0 above, 1 below the line, in lowest terms. NO: none such.");
        range(NEW, "many", (x, many) -> x.chance(0, many, 0), 1, 8, NO);
        range(LIVED, "many", (x, many) -> x.chance(LEAST, many, 1), 1, 8, NO);
        range(LIVED, "part", (x, part) -> x.chance(GREATEST, 8, part), 0, 1, NO);
        refused(LIVED, "both", x -> x.chance(0, 0, 2), NO);
        for (int now : new int[] {0, 3, 6, 9, 12}) {
            TwoKeys x = made(plain(2, 1));
            x.set(0, 0, now);
            // wrapping: behind the greatest seed comes the least
            for (long seed : new long[] {0, -4, 1000, GREATEST, GREATEST - 1L, GREATEST - 3L, GREATEST - 7L, LEAST}) {
                int lucky = 0;
                for (int many = 1; many <= 8; many++) {
                    lucky += month(seed + many - 1, 0) > now ? 1 : 0;
                    int common = java.math.BigInteger.valueOf(lucky).gcd(java.math.BigInteger.valueOf(many)).intValue();
                    String call = "month " + now + ", " + many + " seeds from " + seed;
                    due(call + ", above", x.chance((int) seed, many, 0), lucky / common);
                    due(call + ", below", x.chance((int) seed, many, 1), many / common);
                }
            }
        }
        TwoKeys never = made(ruled("may 0;costs 1;fears 1;").then(plain(2, 1)));
        TwoKeys always = new TwoKeys();
        for (int many = 1; many <= 8; many++) {
            due("never: 0 above", never.chance(5, many, 0), 0);
            due("never: 1 below", never.chance(5, many, 1), 1);
            due("always: 1 above", always.chance(5, many, 0), 1);
            due("always: 1 below", always.chance(5, many, 1), 1);
        }
        asks(LIVED, "chance", x -> x.chance(1, 8, 0), made(LIVED).chance(1, 8, 0));
    }

    private static void image() {
        Doc.says("`int image()`: AN IMAGE is kept: PEOPLE.");
        for (int n = 2; n <= 6; n++) {
            TwoKeys x = made(plain(n, 0));
            due("people", x.image(), n);
            due("people stay", x.count(0), n);
            x.people(n == 2 ? 6 : 2);
            due("the image's", x.back(), n);
            x.people(n == 2 ? 6 : 2);
            due("another image", x.image(), n == 2 ? 6 : 2);
            x.people(4);
            due("the one before is gone", x.back(), n == 2 ? 6 : 2);
        }
        // the image does not change with the town
        TwoKeys x = made(plain(4, 2));
        x.lay(0, 0, 1);
        x.speak(2, 3, 5);
        x.image();
        x.speak(2, 3, 6);
        x.lay(0, 1, 2);
        x.back();
        x.speak(2, 3, 7);
        x.lay(0, 1, 3);
        x.back();
        due("who speaks", x.told(2, 3, 0), 5);
        due("who holds", x.chestTold(0, 4), 0);
    }

    private static void back() {
        Doc.says("`int back()`: All that it keeps is as in THE IMAGE: PEOPLE. STATE: there is none.");
        refused(NEW, "there is none", x -> x.back(), STATE);
        refused(FURNISHED, "there is none", x -> x.back(), STATE);
        refused(FURNISHED.then(x -> {
            x.chest(1, 12);
            x.chest(2, 34);
            x.speak(0, 2, 0);
            x.lay(0, 0, 1);
            x.set(0, 0, 3);
        }), "there is none", x -> x.back(), STATE);
        TwoKeys x = made(LIVED);
        due("people", x.back(), 5);
        int[] counts = {5, 1, 7, 5, 2, 12, 1, 1};
        for (int what = 0; what < 8; what++) due("count(" + what + ")", x.count(what), counts[what]);
        due("who speaks", x.told(0, 4, 0) * 100 + x.told(0, 1, 0), 113);
        due("who holds", x.chestTold(0, 4), 8);
        due("keys", x.lawful(2), 1);
        due("ways", x.told(0, 4, 1), 0);
        due("opened", x.opened(31), 0);
        due("the chest that came is gone", x.chestTold(1, 0), BAD);
        due("by the rule", x.worth(0), 36);
    }

    private static void count() {
        Doc.says("`int count(int what)`: How many: 0 PEOPLE, 1 CHESTS, 2 THE MONTH, 3 MOST, 4 TEXTS, 5 bytes of THE TAPE, "
            + "6 THE RULE, 7 PAIRS that SPEAK. BAD.");
        range(LIVED, "count", (x, what) -> x.count(what), 0, 7, BAD);
        range(NEW, "count", (x, what) -> x.count(what), 0, 7, BAD);
        int[] lived = {5, 2, 2, 3, 2, 12, 0, 2};
        int[] crowded = {6, 4, 0, 4, 6, 160, 0, 1};
        for (int what = 0; what < 8; what++) {
            int w = what;
            asks(LIVED, "count(" + w + ")", x -> x.count(w), lived[w]);
            asks(CROWDED, "count(" + w + ")", x -> x.count(w), crowded[w]);
        }
        TwoKeys x = made(plain(6, 0));
        int pairs = 0;
        for (int b = 1; b < 6; b++) {
            for (int a = 0; a < b; a++) {
                x.speak(a, b, 0);
                pairs++;
                due("pairs that speak", x.count(7), pairs);
            }
        }
    }
}
