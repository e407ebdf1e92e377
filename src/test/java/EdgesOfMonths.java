/** Promises 16 to 20, and the terms of quarrels, peace, months. */
final class EdgesOfMonths extends Edge {
    static void run() {
        cheapestQuarrel();
        worstPeace();
        heldInMonth();
        heldByNobody();
        fearsTogether();
        quarrel();
        peace();
        in();
        first();
        worth();
    }

    /** n people who all speak, chests of kind 0, by this rule. */
    private static Town talkers(String text, int n, int chests) {
        return ruled(text).then(plain(n, chests)).then(x -> {
            for (int b = 1; b < n; b++) for (int a = 0; a < b; a++) x.speak(a, b, 0);
        });
    }

    private static void quarrelIs(String what, TwoKeys x, int pair, int costs) {
        due(what + ": the pair", x.quarrel(0), pair);
        due(what + ": costs", x.quarrel(1), costs);
    }

    private static void cheapestQuarrel() {
        Doc.says("QUARREL: of PAIRS that SPEAK, and by which, did they never, there would be a LAYING, that of least costs "
            + "(told as all is now); of like ones the first; NONE (also if there is a LAYING as it is).");
        quarrelIs("no chests: the empty row is a laying", new TwoKeys(), NONE, NONE);
        quarrelIs("there are layings", made(plain(6, 4)), NONE, NONE);
        for (int n = 2; n <= 6; n++) {
            int last = n * (n - 1) / 2 - 1;
            quarrelIs("like costs: the first", made(talkers("may 1;costs 5;fears 1;", n, 1)), 0, 5);
            quarrelIs("the last is cheapest", made(talkers("may 1;costs 99-one-other;fears 1;", n, 1)), last, 99 - (2 * n - 3));
            String only = "may one=" + (n - 2) + " and other=" + (n - 1) + ";costs one*10+other;fears 1;";
            quarrelIs("the last alone helps", made(talkers(only, n, 1)), last, 10 * (n - 2) + n - 1);
            quarrelIs("none helps", made(talkers("may 0;costs 1;fears 1;", n, 1)), NONE, NONE);
        }
        // the bounds make costs alike: 99 and what is above, 0 and what is below
        quarrelIs("above", made(talkers("may 1;costs 200-other*50-one;fears 1;", 3, 1)), 0, 99);
        quarrelIs("100 is like 99", made(talkers("may 1;costs 100-one;fears 1;", 3, 1)), 0, 99);
        quarrelIs("99 and 98", made(talkers("may 1;costs 99-one;fears 1;", 3, 1)), 2, 98);
        quarrelIs("below", made(talkers("may 1;costs 0-other;fears 1;", 3, 1)), 0, 0);
        quarrelIs("-1 is like 0", made(talkers("may 1;costs 0-one;fears 1;", 3, 1)), 0, 0);
        quarrelIs("1 and 0", made(talkers("may 1;costs 1-one;fears 1;", 3, 1)), 2, 0);
        // costs are told as all is now: they speak, so far is 0
        quarrelIs("far is 0", made(talkers("may 1;costs far*20+month;fears 1;", 3, 1).then(x -> x.set(0, 0, 12))), 0, 12);
        quarrelIs("keys", made(talkers("may 1;costs keys;fears 1;", 3, 2).then(x -> {
            x.lay(0, 0, 1);
            x.lay(1, 0, 1);
        })), 1, 2);
        // 0 and 1 would have no way any more, 2 and 3 would have one over 1: costs don't know that
        TwoKeys ways = made(ruled("may one+1=other and not one=1;costs far;fears 1;").then(plain(4, 1)));
        ways.speak(0, 1, 0);
        for (int b = 2; b < 4; b++) for (int a = 1; a < b; a++) ways.speak(a, b, 0);
        quarrelIs("like costs, as all is now: the first", ways, 0, 0);
        // who will speak later does not speak, and so can't quarrel
        TwoKeys later = made(talkers("may one=0;costs other;fears 1;", 3, 1));
        later.speak(0, 1, 1);
        later.speak(1, 2, 0);
        quarrelIs("0, 1 don't speak yet: there are layings", later, NONE, NONE);
        later.set(0, 0, 1);
        quarrelIs("now they do", later, 0, 1);
        TwoKeys barred = made(talkers("may other=2;costs 9-other;fears 1;", 3, 1));
        barred.speak(0, 1, 13);
        quarrelIs("0, 1 don't speak, and may not", barred, 1, 7);
        // most: two chests on one pair, or not
        TwoKeys most = made(talkers("may 1;costs 3;fears 1;", 4, 2));
        most.set(1, 0, 1);
        quarrelIs("one pair can't hold both", most, NONE, NONE);
        most.set(1, 0, 2);
        quarrelIs("one pair can", most, 0, 3);
        most.set(1, 0, 1);
        most.speak(2, 3, 13);
        quarrelIs("2, 3 hold the other one", most, 0, 3);
        most.speak(2, 3, 0);
        most.speak(1, 2, 13);
        quarrelIs("1, 2 hold the other one", most, 3, 3);
        // far of may is told as it would be then
        quarrelIs("one goes between them", made(talkers("may far=1;costs 1;fears 1;", 3, 1)), 0, 1);
        quarrelIs("nobody can", made(talkers("may far=1;costs 1;fears 1;", 2, 1)), NONE, NONE);
        quarrelIs("no way", made(talkers("may far=9;costs 1;fears 1;", 2, 1)), 0, 1);
    }

    private static void peaceIs(String what, TwoKeys x, int pair, int many) {
        due(what + ": the pair", x.peace(0), pair);
        due(what + ": how many", x.peace(1), many);
    }

    private static void worstPeace() {
        Doc.says("PEACE: of PAIRS that don't SPEAK that by which, did they from MONTH 0 on, most CHESTS would be held "
            + "as they may not be; of like ones the first; how many these are (0: there is no such PAIR).");
        String rule = "may 1;costs 1;fears 1;";
        for (int n = 2; n <= 6; n++) {
            int last = n * (n - 1) / 2 - 1;
            peaceIs("no chests: the first", made(plain(n, 0)), 0, 0);
            peaceIs("nobody holds: the first", made(plain(n, 4)), 0, 0);
            for (int chests = 1; chests <= 4; chests++) {
                TwoKeys x = made(plain(n, chests));
                for (int chest = 0; chest < chests; chest++) x.lay(chest, n - 2, n - 1);
                peaceIs("all are held by the last", x, last, chests);
                x.set(0, 0, 12);
                peaceIs("in the last month, too", x, last, chests);
                x.speak(n - 2, n - 1, 12);
                // they are held so already, and peace of others adds none
                peaceIs("the last speak", x, n == 2 ? NONE : 0, n == 2 ? 0 : chests);
                x.set(0, 0, 11);
                peaceIs("not yet", x, last, chests);
            }
            TwoKeys all = made(talkers(rule, n, 1));
            all.lay(0, 0, 1);
            peaceIs("all speak: no such pair", all, NONE, 0);
        }
        TwoKeys like = made(plain(4, 2));
        like.lay(0, 2, 3);
        like.lay(1, 0, 2);
        peaceIs("of like ones the first", like, 1, 1);
        like.speak(0, 2, 0);
        peaceIs("one is held so already, one more", like, 5, 2);
        like.speak(2, 3, 0);
        peaceIs("both are: the first who don't speak", like, 0, 2);
        // ways come by a peace, too
        TwoKeys far = made(ruled("may far=9;costs 1;fears 1;").then(plain(4, 2)));
        far.speak(0, 1, 0);
        far.speak(2, 3, 0);
        far.lay(0, 0, 3);
        far.lay(1, 1, 2);
        peaceIs("any peace of the two sides makes both wrong", far, 1, 2);
        // a peace can mend, too: then the most is that of another
        TwoKeys mends = made(ruled("may far<2 or one=0;costs 1;fears 1;").then(plain(3, 0)));
        mends.chest(2, 2);
        mends.lay(0, 1, 2);
        peaceIs("0, 1 first", mends, 0, 1);
    }

    private static void heldInMonth() {
        Doc.says("IN a MONTH: how many CHESTS are held as they may not be, were it THE MONTH; "
            + "the first MONTH from THE MONTH on in which any is; NONE.");
        for (int from = 0; from <= 13; from++) {
            TwoKeys x = made(plain(2, 2));
            x.speak(0, 1, from);
            x.lay(0, 0, 1);
            for (int now = 0; now <= 12; now++) {
                x.set(0, 0, now);
                for (int month = 0; month <= 12; month++) due("from " + from + " in " + month, x.in(month), from <= month ? 1 : 0);
                due("from " + from + " now " + now, x.first(), from == 13 ? NONE : Math.max(from, now));
            }
        }
        TwoKeys rule = made(ruled("may not month=5 and not month=12;costs 1;fears 1;").then(plain(2, 1)));
        rule.lay(0, 0, 1);
        int[] firsts = {5, 5, 5, 5, 5, 5, 12, 12, 12, 12, 12, 12, 12};
        for (int now = 0; now <= 12; now++) {
            rule.set(0, 0, now);
            due("first from " + now, rule.first(), firsts[now]);
            due("in " + now, rule.in(now), now == 5 || now == 12 ? 1 : 0);
        }
        TwoKeys far = made(ruled("may far=9;costs 1;fears 1;").then(plain(3, 1)));
        far.speak(0, 1, 3);
        far.speak(1, 2, 6);
        far.lay(0, 0, 2);
        for (int now = 0; now <= 12; now++) {
            far.set(0, 0, now);
            for (int month = 0; month <= 12; month++) due("ways as they were in " + month, far.in(month), month >= 6 ? 1 : 0);
            due("the first month with a way", far.first(), Math.max(6, now));
        }
        TwoKeys early = made(ruled("may 0<month;costs 1;fears 1;").then(plain(2, 1)));
        early.lay(0, 0, 1);
        due("in month 0", early.in(0), 1);
        due("first", early.first(), 0);
        early.set(0, 0, 1);
        due("what is past is none", early.first(), NONE);
    }

    private static void heldByNobody() {
        Doc.says("(A CHEST that nobody holds is not held so.)");
        TwoKeys x = made(ruled("may 0;costs 1;fears 9;").then(plain(3, 4)));
        due("in", x.in(0), 0);
        due("first", x.first(), NONE);
        due("peace", x.peace(1), 0);
        due("worths", x.worth(1), 0);
        for (int chest = 0; chest < 4; chest++) {
            x.lay(chest, 0, 1);
            due("in", x.in(12), chest + 1);
            due("first", x.first(), 0);
            due("peace", x.peace(1), chest + 1);
        }
        x.lay(0, -1, 0);
        due("in", x.in(12), 3);
    }

    private static void fearsTogether() {
        Doc.says("FEARS: fears of each CHEST that is held, of its PAIR, together; WORTHS: WORTH of CHESTS that are held "
            + "as they may be, less that of those that are held as they may not be.");
        TwoKeys x = made(ruled("may 1;costs 1;fears one*10+other+chest*20;").then(plain(6, 4)));
        due("none is held", x.worth(0), 0);
        x.lay(0, 0, 1);
        due("0, 1", x.worth(0), 1);
        x.lay(3, 1, 2);
        due("and 1, 2 for chest 3", x.worth(0), 1 + 72);
        x.lay(1, 4, 5);
        due("and 4, 5 for chest 1", x.worth(0), 1 + 72 + 65);
        TwoKeys worths = made(plain(4, 0));
        worths.chest(0, 990);
        worths.chest(0, 0);
        worths.chest(0, 10);
        worths.chest(0, 990);
        due("none is held", worths.worth(1), 0);
        for (int chest = 0; chest < 4; chest++) worths.lay(chest, 0, 1);
        due("all as they may be", worths.worth(1), 199);
        worths.lay(3, 2, 3);
        worths.speak(0, 1, 0);
        due("less those", worths.worth(1), 99 - 100);
        worths.speak(2, 3, 0);
        due("none as it may be", worths.worth(1), -199);
        TwoKeys month = made(plain(2, 0));
        month.chest(3, 0);
        month.chest(4, 120);
        for (int chest = 0; chest < 2; chest++) month.lay(chest, 0, 1);
        month.set(0, 0, 12);
        due("by the month: 12 and 0", month.worth(1), 12);
        // most does not matter
        TwoKeys most = made(plain(2, 2));
        most.set(1, 0, 1);
        most.set(3, 0, 40);
        most.set(3, 1, 2);
        for (int chest = 0; chest < 2; chest++) most.lay(chest, 0, 1);
        due("more keys than most, yet each is held as it may be", most.worth(1), 42);
        due("none is held as it may not be", most.in(0), 0);
    }

    private static void quarrel() {
        Doc.says("`int quarrel(int what)`: QUARREL: the PAIR (what 0), costs (1). BAD; NONE.");
        range(STUCK.then(x -> x.set(1, 0, 2)), "quarrel", (x, what) -> x.quarrel(what), 0, 1, BAD);
        range(LIVED, "quarrel", (x, what) -> x.quarrel(what), 0, 1, BAD);
        asks(STUCK, "none helps both", x -> x.quarrel(0), NONE);
        asks(STUCK, "none helps both", x -> x.quarrel(1), NONE);
        asks(STUCK.then(x -> x.set(1, 0, 2)), "0, 2: chest 1 is not for 1", x -> x.quarrel(0), 1);
        asks(STUCK.then(x -> x.set(1, 0, 2)), "costs", x -> x.quarrel(1), 1);
        asks(talkers("may 1;costs one+other*10;fears 1;", 6, 4), "six people, four chests", x -> x.quarrel(1), 10);
    }

    private static void peace() {
        Doc.says("`int peace(int what)`: PEACE: the PAIR (what 0; NONE), how many (1). BAD.");
        range(LIVED, "peace", (x, what) -> x.peace(what), 0, 1, BAD);
        range(STUCK, "peace", (x, what) -> x.peace(what), 0, 1, BAD);
        asks(LIVED, "0, 2, and chest 1 is held so already", x -> x.peace(0), 1);
        asks(LIVED, "two", x -> x.peace(1), 2);
        asks(STUCK, "no such pair", x -> x.peace(0), NONE);
        asks(STUCK, "no such pair", x -> x.peace(1), 0);
    }

    private static void in() {
        Doc.says("`int in(int month)`: IN a MONTH (0 .. 12): how many. BAD.");
        range(LIVED, "in", (x, month) -> x.in(month), 0, 12, BAD);
        range(NEW, "in", (x, month) -> x.in(month), 0, 12, BAD);
        asks(LIVED, "in(0)", x -> x.in(0), 1);
        asks(LIVED, "in(12)", x -> x.in(12), 1);
        asks(STUCK, "in(12)", x -> x.in(12), 2);
        refused(STUCK, "in(13), though all speak", x -> x.in(13), BAD);
    }

    private static void first() {
        Doc.says("`int first()`: The first MONTH from now on. NONE.");
        asks(LIVED, "first", x -> x.first(), 2);
        asks(NEW, "first", x -> x.first(), NONE);
        asks(plain(6, 4), "first", x -> x.first(), NONE);
        Town last = plain(6, 1).then(x -> {
            x.lay(0, 4, 5);
            x.speak(4, 5, 12);
        });
        asks(last, "the last month", x -> x.first(), 12);
        asks(last.then(x -> x.set(0, 0, 12)), "now is the last month", x -> x.first(), 12);
        asks(last.then(x -> x.speak(4, 5, 13)), "never", x -> x.first(), NONE);
    }

    private static void worth() {
        Doc.says("`int worth(int what)`: FEARS (what 0), WORTHS (1). -100000: what.");
        range(LIVED, "worth", (x, what) -> x.worth(what), 0, 1, -100000);
        range(NEW, "worth", (x, what) -> x.worth(what), 0, 1, -100000);
        asks(LIVED, "0, 2 have no way, 2, 3 speak", x -> x.worth(0), 0 + 9);
        asks(LIVED, "15 less 42", x -> x.worth(1), 15 - 42);
        asks(STUCK, "less both", x -> x.worth(1), -10 - 21);
    }
}
