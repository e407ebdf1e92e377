/**
 * One town from its first call to its 512th, told by hand along the document's first sentence: what is
 * called in one place is asked in many others.
 */
final class Story extends Edge {
    private static final int CALLS = 512;
    private static int calls = 0;

    private Story() { }

    static void run() {
        Doc.says("An object is used for at most 512 calls after it has been made; what later calls answer is free.");
        calls = 0;
        TwoKeys x = new TwoKeys();
        chestsAndWhoSpeaks(x);
        layings(x);
        keysHandedOver(x);
        quarrelAndPeace(x);
        ruleOfTexts(x);
        kinds(x);
        lostKeys(x);
        drawnTowns(x);
        laidBack(x);
        askedAgain(x);
        moved(x);
        Check.due("calls ahead of the last one", calls, CALLS - 1);
        is("back, as the 512th call", x.back(), 4);
        Check.due("calls", calls, CALLS);
    }

    /** One call, and what is due. */
    private static void is(String call, long got, long want) {
        calls++;
        Check.due("call " + calls + ": " + call, got, want);
    }

    /** Four people; 0 and 1 speak from month 2 on, 1 and 2 from month 4 on; 3 speaks with nobody. */
    private static void chestsAndWhoSpeaks(TwoKeys x) {
        Doc.says("Two keys: chests with two locks, whose keys are held by two who don't speak with one another, by law;");
        is("people", x.people(4), 5);
        is("a chest of 10", x.chest(0, 100), 0);
        is("a proud one of 20, not for 3", x.chest(1, 203), 1);
        is("nobody holds them", x.lawful(0), 0);
        is("six pairs, and three of them", x.lawful(1), 18);
        is("chest 0 on 0, 1", x.lay(0, 0, 1), NONE);
        is("chest 1 on 1, 2", x.lay(1, 2, 1), NONE);
        is("by law", x.lawful(0), 1);
        is("1 holds two keys", x.lawful(2), 2);
        is("chest 0 by law", x.chestTold(0, 5), 1);
        is("chest 1 by law", x.chestTold(1, 5), 1);
        Doc.says("who speaks with whom, from which month on;");
        is("0, 1 from month 2 on", x.speak(1, 0, 2), 13);
        is("1, 2 from month 4 on", x.speak(1, 2, 4), 13);
        is("told so", x.told(0, 1, 0), 2);
        is("not yet", x.told(0, 1, 1), 9);
        is("none speak now", x.count(7), 0);
        is("the first month that does harm", x.first(), 2);
        int[] harm = {0, 0, 1, 1, 2, 2, 2, 2, 2, 2, 2, 2, 2};
        for (int month = 0; month < 13; month++) is("in " + month, x.in(month), harm[month]);
        is("month 3", x.set(0, 0, 3), 0);
        is("0, 1 speak", x.count(7), 1);
        is("0, 1 speak", x.told(0, 1, 1), 0);
        is("two in their band", x.told(0, 1, 2), 2);
        is("1, 2 don't yet", x.told(1, 2, 1), 9);
        is("not by law any more", x.lawful(0), 0);
        is("chest 0 not by law", x.chestTold(0, 5), 0);
        is("chest 1 by law", x.chestTold(1, 5), 1);
        is("23 less 10", x.worth(1), 13);
        is("9 for those who speak, 0 for the others", x.worth(0), 9);
        is("from now on", x.first(), 3);
        is("chest 0 can be opened", x.opened(15), 1);
        is("by 0 and 1", x.opened(3), 1);
        is("not by 0 alone", x.opened(1), 0);
        is("not by 2 and 3", x.opened(12), 0);
        is("month 4", x.set(0, 9, 4), 3);
        is("both pairs speak", x.count(7), 2);
        is("one between 0 and 2", x.told(2, 0, 1), 1);
        is("both are held as they may not be", x.worth(1), -33);
        is("9 for each", x.worth(0), 18);
        is("from now on", x.first(), 4);
        for (int month = 0; month < 13; month++) is("in " + month + ", whatever month it is", x.in(month), harm[month]);
        Doc.says("who together, speaking on from one to the next, could open a chest;");
        is("both can be opened", x.opened(15), 3);
        is("0 and 2 alone open none", x.opened(5), 0);
        is("with 1 between", x.opened(7), 3);
        is("fewest for both", x.band(3, 0), 7);
        is("three", x.band(3, 1), 3);
        is("each of them must be there", x.band(3, 2), 7);
        is("1, 2 for chest 1", x.band(2, 0), 6);
        is("0, 1 for chest 0", x.band(1, 0), 3);
    }

    /** Month 4: chest 0 may be on 0, 2 or on those with 3, chest 1 on 0, 2 alone. */
    private static void layings(TwoKeys x) {
        Doc.says("which layings are lawful, that of fewest keys moved, of largest bands;");
        is("four", x.lawful(1), 4);
        is("one key each", x.best(0, NONE), 2);
        is("chest 0 to 0, 2", x.best(0, 0), 1);
        is("chest 1 to 0, 2", x.best(0, 1), 1);
        is("nine and three", x.best(1, NONE), 12);
        is("chest 0 to 0, 3", x.best(1, 0), 3);
        is("chest 1 to 0, 2", x.best(1, 1), 1);
        is("one key is most", x.set(1, 0, 1), 4);
        is("chest 0 must be on 1, 3", x.lawful(1), 1);
        is("still one key each", x.best(0, NONE), 2);
        is("chest 0 to 1, 3", x.best(0, 0), 4);
        is("nine and three", x.best(1, NONE), 12);
        is("as large", x.best(1, 0), 4);
    }

    private static void keysHandedOver(TwoKeys x) {
        is("a sheet of bytes", x.sheet(0, 0, 4), 1);
        int[] rows = {1, 1, 0, 4};
        for (int i = 0; i < 4; i++) is("cell", x.cell(0, i, rows[i]), 1);
        is("0 would hold two", x.judge(0), 0);
        is("two are most", x.set(1, 0, 2), 1);
        is("then it goes", x.judge(0), NONE);
        is("one again", x.set(1, 0, 1), 2);
        is("a sheet of ints", x.sheet(1, 2, 2), 1);
        is("chest 0 on 1, 3", x.cell(1, 0, 4), 1);
        is("chest 1 on 0, 2", x.cell(1, 1, 1), 1);
        is("the first laying", x.place(1), 0);
        is("chest 0 on 0, 3", x.cell(1, 0, 3), 1);
        is("it is none", x.place(1), NONE);
        is("with two as most it is", x.set(1, 0, 2), 1);
        is("behind the one of 0, 2 twice", x.place(1), 1);
        is("one again", x.set(1, 0, 1), 2);
        is("two keys move", x.move(), 2);
        is("chest 0 on 1, 3", x.chestTold(0, 4), 4);
        is("chest 1 on 0, 2", x.chestTold(1, 4), 1);
        is("by law", x.lawful(0), 1);
        is("one key each", x.lawful(2), 1);
        is("10 and 23", x.worth(1), 33);
        is("it is so already", x.judge(0), NONE);
        for (int month = 0; month < 13; month++) is("in " + month, x.in(month), 0);
        is("never", x.first(), NONE);
        is("chest 0 can't be opened", x.opened(15), 2);
        is("by nobody", x.band(1, 0), NONE);
        is("nobody must be there", x.band(1, 2), 0);
        is("chest 1 by 0, 1, 2", x.band(2, 0), 7);
        is("nothing moves", x.move(), 0);
    }

    private static void quarrelAndPeace(TwoKeys x) {
        Doc.says("the cheapest quarrel, the peace that does most harm;");
        is("no need of one", x.quarrel(0), NONE);
        is("no need of one", x.quarrel(1), NONE);
        is("that of 0, 2", x.peace(0), 1);
        is("harms one chest", x.peace(1), 1);
        is("0, 2 speak", x.speak(0, 2, 0), 13);
        is("three pairs", x.count(7), 3);
        is("chest 1 may be nowhere", x.lawful(1), 0);
        is("none such", x.best(0, NONE), STATE);
        is("none such", x.best(1, 1), STATE);
        is("none such", x.move(), STATE);
        is("none such", x.place(1), NONE);
        is("not by law", x.lawful(0), 0);
        is("that of 0, 1 costs as little as any", x.quarrel(0), 0);
        is("1 and nobody between", x.quarrel(1), 1);
        is("that of 1, 3 harms chest 0, too", x.peace(0), 4);
        is("both", x.peace(1), 2);
        is("chest 1 by 0, 2 now", x.band(2, 0), 5);
        is("by whom it can have been", x.band(2, 2), 5);
        is("handing over asks no law", x.judge(0), NONE);
    }

    private static void ruleOfTexts(TwoKeys x) {
        Doc.says("by a rule of texts who may, what it costs that two quarrel, what a chest is worth;");
        String text = "may keys<3;costs 50-one*20;fears chest*10+month;";
        for (int i = 0; i < text.length(); i++) is("feed", x.feed(text.charAt(i)), i + 1);
        is("on the tape it is no rule", x.quarrel(1), 1);
        is("text 1", x.text(), 1);
        is("the tape is empty", x.count(5), 0);
        is("two texts", x.count(4), 2);
        is("it is no rule yet", x.quarrel(1), 1);
        is("it is", x.force(1), 0);
        is("rule", x.count(6), 1);
        is("that of 1, 2 is cheapest", x.quarrel(0), 2);
        is("50 less 20", x.quarrel(1), 30);
        is("4 and 14", x.worth(0), 18);
        is("10 less 23", x.worth(1), -13);
        is("chest 0 comes to 1, 2", x.lay(0, 1, 2), 4);
        is("2 holds two keys", x.lawful(2), 2);
        is("1, 2 have three keys, so that of 0, 1", x.quarrel(0), 0);
        is("50", x.quarrel(1), 50);
        is("0, 2 may not hold it, did they not speak", x.mayLay(0, 1), 0);
        is("0, 3 may", x.mayLay(0, 3), 1);
        is("of the first text", x.force(0), 1);
        is("1", x.quarrel(1), 1);
        is("9 and 9", x.worth(0), 18);
        is("the second one again", x.force(1), 0);
        is("chest 0 on 1, 3 again", x.lay(0, 3, 1), 2);
        is("as before", x.quarrel(0), 2);
        is("a fault", x.feed('?'), 1);
        is("its place", x.text(), -100);
        is("no text more", x.count(4), 2);
        is("the rule stays", x.quarrel(1), 30);
    }

    private static void kinds(TwoKeys x) {
        Doc.says("kinds of chests, whom they let hold their keys;");
        is("a deep one", x.chest(4, 906), 2);
        is("90 less 4", x.chestTold(2, 3), 86);
        is("a strict one", x.chest(5, 5), 3);
        is("5 less 5", x.chestTold(3, 3), 0);
        is("full", x.chest(0, 0), FULL);
        is("deep is open", x.taken(2, 2), 6);
        is("deep is not proud", x.taken(2, 1), OTHER_SORT);
        is("strict is proud", x.taken(3, 1), 5);
        is("proud is a chest", x.taken(1, 0), 3);
        is("a chest is not proud", x.taken(0, 1), OTHER_SORT);
        is("deep on 0, 1, who speak", x.mayLay(2, 0), 1);
        is("deep not on 1, 2", x.mayLay(2, 2), 0);
        is("strict on 0, 3", x.mayLay(3, 3), 1);
        is("strict not on neighbours", x.mayLay(3, 5), 0);
        is("its number is 1", x.set(2, 2, 1), 6);
        is("told so", x.taken(2, 4), 1);
        is("not on 0, 1", x.mayLay(2, 0), 0);
        is("but on 1, 2", x.mayLay(2, 2), 1);
        is("9 in it", x.set(3, 2, 9), 90);
        is("twice 4, less 4", x.chestTold(2, 3), 4);
        is("month 12", x.set(0, 0, 12), 4);
        is("0 at least", x.chestTold(2, 3), 0);
        is("12 and 22", x.worth(0), 34);
        is("month 4", x.set(0, 0, 4), 12);
        is("4 and 14", x.worth(0), 18);
        is("the sheet is of two, the chests are four", x.place(1), BAD);
    }

    private static void lostKeys(TwoKeys x) {
        Doc.says("months, keys that are lost, what was opened, by whom it can have been;");
        is("the keys of chest 1 are lost", x.lay(1, -1, 7), 1);
        is("it is held as it may not be no more", x.in(4), 0);
        is("nor ever", x.first(), NONE);
        is("nobody can open it", x.band(2, 0), NONE);
        is("nobody can have", x.band(2, 2), 0);
        is("10 of chest 0", x.worth(1), 10);
        is("4 of chest 0", x.worth(0), 4);
        is("nobody to fear for", x.chestTold(1, 5), 0);
        is("the peace of 1, 3", x.peace(0), 4);
        is("harms chest 0", x.peace(1), 1);
        is("keys are found again", x.lay(1, 2, 0), NONE);
        is("by 0 and 2", x.band(2, 0), 5);
        is("harm again", x.in(4), 1);
        is("and from month 0 on", x.in(0), 1);
        is("from now on", x.first(), 4);
    }

    /** Who speaks is written on a sheet as it is drawn: then there are as many layings as were told. */
    private static void drawnTowns(TwoKeys x) {
        Doc.says("towns that are drawn;");
        is("an image", x.image(), 4);
        is("four are most", x.set(1, 0, 4), 1);
        is("a sheet for six", x.sheet(2, 1, 18), 1);
        for (int seed = 5; seed < 8; seed++) {
            long drawn = x.drawn(seed);
            is("drawn again", x.drawn(seed), drawn);
            is("of one", x.chance(seed, 1, 0), drawn > 0 ? 1 : 0);
            calls++;
            int z = seed;
            for (int pair = 0; pair < 6; pair++) {
                z = z * 1103515245 + 12345;
                is("lower", x.cell(2, 3 * pair, new int[] {0, 0, 1, 0, 1, 2}[pair]), 1);
                is("higher", x.cell(2, 3 * pair + 1, new int[] {1, 2, 2, 3, 3, 3}[pair]), 1);
                is("month", x.cell(2, 3 * pair + 2, (z >>> 9) % 14), 1);
            }
            is("six became so", x.speaks(2, 1, 0, 6), 6);
            is("as many as were drawn", x.lawful(1), drawn);
            is("drawn once more", x.drawn(seed), drawn);
        }
    }

    private static void laidBack(TwoKeys x) {
        Doc.says("all laid back.");
        is("two people", x.people(2), 4);
        is("who don't speak", x.count(7), 0);
        is("nobody holds", x.chestTold(0, 4), NONE);
        is("no 2", x.told(0, 2, 0), BAD);
        is("month 0", x.set(0, 0, 0), 4);
        is("the first rule", x.force(0), 1);
        is("they hold it", x.lay(0, 0, 1), NONE);
        is("they speak", x.speak(0, 1, 0), 13);
        is("77 in it", x.set(3, 0, 77), 10);
        is("something on the tape", x.feed(32), 1);
        is("back", x.back(), 4);
        int[] counts = {4, 4, 4, 1, 2, 1, 1, 3};
        for (int what = 0; what < 8; what++) is("count " + what, x.count(what), counts[what]);
        int[] months = {2, 0, 4, 13, 13, 13};
        int pair = 0;
        for (int b = 1; b < 4; b++) {
            for (int a = 0; a < b; a++) {
                is("told " + a + ", " + b, x.told(a, b, 0), months[pair]);
                pair++;
            }
        }
        int[] held = {4, 1, NONE, NONE};
        for (int chest = 0; chest < 4; chest++) is("held " + chest, x.chestTold(chest, 4), held[chest]);
        is("gold stays as it is", x.chestTold(0, 2), 77);
        is("so it counts", x.worth(1), 54);
        is("10 again", x.set(3, 0, 10), 77);
        is("10 less 23", x.worth(1), -13);
        is("one key each", x.lawful(2), 1);
        is("chest 1 can be opened", x.opened(15), 2);
        is("sheets stay", x.speaks(2, 1, 0, 0), 0);
    }

    /** All that can be asked of the town as it was laid back. */
    private static void askedAgain(TwoKeys x) {
        int[][] may = {{0, 0, 0, 1, 1, 1}, {0, 0, 0, 0, 0, 0}, {0, 0, 1, 1, 1, 1}, {0, 0, 0, 1, 1, 0}};
        for (int chest = 0; chest < 4; chest++) {
            for (int pair = 0; pair < 6; pair++) is("chest " + chest + " on " + pair, x.mayLay(chest, pair), may[chest][pair]);
        }
        for (int set = 0; set < 16; set++) is("opened by " + set, x.opened(set), (set & 5) == 5 ? 2 : 0);
        for (int chests = 0; chests < 16; chests++) {
            boolean isOpened = chests == 0 || chests == 2;
            is("fewest for " + chests, x.band(chests, 0), chests == 0 ? 0 : isOpened ? 5 : NONE);
            is("how many for " + chests, x.band(chests, 1), chests == 0 ? 0 : isOpened ? 2 : NONE);
            is("must for " + chests, x.band(chests, 2), chests == 2 ? 5 : 0);
        }
    }

    /** The rule tells by the laying: the best one undoes itself. */
    private static void moved(TwoKeys x) {
        is("four chests have eight keys", x.quarrel(0), NONE);
        is("four are most", x.set(1, 0, 4), 1);
        is("that of 1, 2", x.quarrel(0), 2);
        is("they quarrel", x.speak(1, 2, 13), 4);
        is("four, one, four, two", x.lawful(1), 32);
        is("one of chest 1", x.best(0, NONE), 1);
        is("a sheet of shorts", x.sheet(1, 1, 4), 1);
        for (int chest = 0; chest < 4; chest++) is("cell", x.cell(1, chest, new int[] {4, 2, 2, 3}[chest]), 1);
        is("behind 1, 2 and 0, 3", x.place(1), 16);
        is("move", x.move(), 1);
        is("each two have three keys at least", x.lawful(1), 0);
        is("so it is no laying", x.place(1), NONE);
        is("not by law", x.lawful(0), 0);
        is("all four", x.in(4), 4);
        is("by the first rule", x.force(0), 1);
        is("it is", x.place(1), 16);
        is("by law", x.lawful(0), 1);
        is("three of 1", x.lawful(2), 3);
        is("two are most", x.set(1, 0, 2), 4);
        is("not by law", x.lawful(0), 0);
        while (calls < CALLS - 1) is("0 goes between", x.told(1, 2, 1), 1);
    }
}
