import java.util.List;

/**
 * Towns on which edges are tried, and whether a call has changed anything there: a twin of the town
 * is made without the call, and both are asked all that can be asked. The probes change what they
 * ask (that is how tape, texts, sheets and image are told), so each has twins of its own; a town and
 * a probe stay below the 512 calls of an object.
 */
abstract class Edge {
    static final int NONE = -1, BAD = -2, STATE = -3, FULL = -4;
    static final int NOTHING = -11, OUTSIDE = -12, OTHER_SORT = -13, BELOW_ZERO = -14;
    static final long NO = -4611686018427387904L;
    static final int LEAST = Integer.MIN_VALUE, GREATEST = Integer.MAX_VALUE;
    static final String PLAIN_TEXT = "may1;costs1;fears1;";

    interface Town {
        void on(TwoKeys x);

        default Town then(Town more) {
            return x -> {
                on(x);
                more.on(x);
            };
        }
    }

    interface Call { long on(TwoKeys x); }

    interface CallOf { long on(TwoKeys x, int v); }

    private interface Probe { void on(TwoKeys x, StringBuilder s); }

    private static final List<Probe> PROBES = List.of(
        Edge::tellPlain, Edge::tellLaw, Edge::tellMoved, Edge::tellTape, Edge::tellTexts,
        Edge::tellSheets, Edge::tellItems,
        (x, s) -> { say(s, x.back()); tellPlain(x, s); },
        (x, s) -> { say(s, x.back()); tellLaw(x, s); });

    static final Town NEW = x -> { };

    /** A text more, something on the tape, sheets of each sort and one that is missing; no image. */
    static final Town FURNISHED = x -> {
        read(x, "may not one=3;costs one+1;fears other*9;");
        feed(x, "may one<2;co");
        sheet(x, 0, 0, 0, 3, 1, 1);
        sheet(x, 1, 2, 4, 0, 9, 0, 1, 2);
        sheet(x, 2, 1, 1, 0, 13);
    };

    /** Something stands everywhere, and nothing is full. */
    static final Town LIVED = FURNISHED.then(x -> {
        x.chest(1, 123);
        x.speak(0, 4, 1);
        x.lay(0, 2, 4);
        x.set(0, 0, 7);
        x.set(1, 0, 5);
        x.force(1);
        x.image();
        x.people(4);
        x.people(5);
        x.chest(4, 456);
        x.force(0);
        x.set(0, 0, 2);
        x.set(1, 0, 3);
        x.speak(0, 1, 3);
        x.speak(2, 3, 0);
        x.speak(1, 2, 2);
        x.lay(0, 0, 2);
        x.lay(1, 3, 2);
    });

    /** Chests and texts are full, and so is the tape. */
    static final Town CROWDED = x -> {
        for (int i = 0; i < 5; i++) read(x, PLAIN_TEXT);
        sheet(x, 0, 0, 0, 3, 1, 1);
        sheet(x, 1, 2, 4, 0, 9, 0, 1, 2);
        sheet(x, 2, 1, 1, 0, 13);
        x.chest(0, 505);
        x.lay(0, 1, 3);
        x.image();
        x.people(6);
        for (int kind = 1; kind < 4; kind++) x.chest(kind, 505 + kind);
        x.lay(1, 0, 5);
        x.speak(0, 5, 0);
        for (int i = 0; i < 160; i++) x.feed(32);
    };

    /** 160 bytes that are a text. */
    static final Town FULL_TAPE = x -> {
        String text = "may one<2;costs one;fears other+50;";
        feed(x, text);
        for (int i = text.length(); i < 160; i++) x.feed(10);
        x.chest(0, 0);
        x.lay(0, 0, 3);
    };

    /** All speak, so there are no layings. */
    static final Town STUCK = FURNISHED.then(x -> {
        x.chest(0, 100);
        x.speak(0, 4, 1);
        x.lay(0, 2, 4);
        x.set(0, 0, 7);
        x.force(1);
        x.image();
        x.set(0, 0, 0);
        x.force(0);
        x.people(3);
        x.chest(1, 201);
        for (int b = 1; b < 3; b++) for (int a = 0; a < b; a++) x.speak(a, b, 0);
        x.lay(0, 0, 1);
        x.lay(1, 1, 2);
        x.set(1, 0, 1);
    });

    static TwoKeys made(Town town) {
        TwoKeys x = new TwoKeys();
        town.on(x);
        return x;
    }

    static void feed(TwoKeys x, String s) {
        for (int i = 0; i < s.length(); i++) x.feed(s.charAt(i));
    }

    static int read(TwoKeys x, String s) {
        feed(x, s);
        return x.text();
    }

    static void sheet(TwoKeys x, int sheet, int sort, int... items) {
        x.sheet(sheet, sort, items.length);
        for (int i = 0; i < items.length; i++) x.cell(sheet, i, items[i]);
    }

    /** n people, chests of kind 0. */
    static Town plain(int n, int chests) {
        return x -> {
            x.people(n);
            for (int i = 0; i < chests; i++) x.chest(0, 0);
        };
    }

    /** A new town whose rule is this text. */
    static Town ruled(String text) {
        return x -> {
            Check.due("text " + text, read(x, text), 1);
            Check.due("force(1)", x.force(1), 0);
        };
    }

    static void due(String call, long got, long want) {
        Check.due(call, got, want);
    }

    /** The call answers so, and changes nothing. */
    static void asks(Town town, String call, Call c, long want) {
        due(call, c.on(made(town)), want);
        for (int i = 0; i < PROBES.size(); i++) {
            TwoKeys x = made(town);
            c.on(x);
            String got = told(PROBES.get(i), x);
            String twin = told(PROBES.get(i), made(town));
            Check.holds(call + " changes nothing (probe " + i + ": " + got + " / " + twin + ")", got.equals(twin));
        }
    }

    /** The call is refused so, and changes nothing. */
    static void refused(Town town, String call, Call c, long refusal) {
        asks(town, call + " is refused", c, refusal);
    }

    /** From low to high a number is taken; those next to them and the farthest ones are refused. */
    static void range(Town town, String call, CallOf c, int low, int high, long refusal) {
        for (int v = low; v <= high; v += Math.max(1, (high - low) / 20)) taken(town, call, c, v, refusal);
        taken(town, call, c, high, refusal);
        for (int v : new int[] {low - 1, high + 1, low - 2, high + 2, LEAST, GREATEST, LEAST + 1, GREATEST - 1}) {
            refused(town, call + " with " + v, x -> c.on(x, v), refusal);
        }
    }

    private static void taken(Town town, String call, CallOf c, int v, long refusal) {
        long got = c.on(made(town), v);
        Check.holds(call + " takes " + v + " and answers " + got, got != refusal);
    }

    private static String told(Probe probe, TwoKeys x) {
        StringBuilder s = new StringBuilder();
        probe.on(x, s);
        return s.toString();
    }

    private static void say(StringBuilder s, long answer) {
        s.append(answer).append(' ');
    }

    private static void tellPlain(TwoKeys x, StringBuilder s) {
        for (int what = 0; what < 8; what++) say(s, x.count(what));
        for (int b = 1; b < 6; b++) {
            for (int a = 0; a < b; a++) {
                for (int what = 0; what < 3; what++) say(s, x.told(a, b, what));
            }
        }
        for (int chest = 0; chest < 4; chest++) {
            for (int what = 0; what < 6; what++) say(s, x.chestTold(chest, what));
        }
    }

    private static void tellLaw(TwoKeys x, StringBuilder s) {
        for (int chest = 0; chest < 4; chest++) {
            for (int pair = 0; pair < 15; pair++) say(s, x.mayLay(chest, pair));
        }
        for (int what = 0; what < 3; what++) say(s, x.lawful(what));
        for (int chest = NONE; chest < 4; chest++) say(s, x.best(0, chest) * 100 + x.best(1, chest));
        for (int what = 0; what < 2; what++) {
            say(s, x.quarrel(what));
            say(s, x.peace(what));
            say(s, x.worth(what));
        }
        for (int month = 0; month < 13; month++) say(s, x.in(month));
        say(s, x.first());
        for (int chests = 0; chests < 16; chests++) say(s, x.band(chests, 0));
        say(s, x.drawn(3));
    }

    private static void tellMoved(TwoKeys x, StringBuilder s) {
        say(s, x.move());
        tellPlain(x, s);
    }

    /** Behind a tape of LIVED this makes a text, behind others a fault tells where they end. */
    private static void tellTape(TwoKeys x, StringBuilder s) {
        for (String rest : new String[] {"sts one;fears other+50;", PLAIN_TEXT, "(", ""}) {
            feed(x, rest);
            say(s, x.count(5));
            say(s, x.text());
            say(s, x.count(4));
        }
        tellTexts(x, s);
    }

    private static void tellTexts(TwoKeys x, StringBuilder s) {
        for (int text = 0; text < 6; text++) {
            say(s, x.force(text));
            say(s, x.worth(0));
            for (int pair = 0; pair < 10; pair++) say(s, x.mayLay(0, pair));
        }
    }

    /** What could be refused comes late, so that a refusal that changes something shows ahead of it. */
    private static void tellSheets(TwoKeys x, StringBuilder s) {
        for (int sheet = 3; sheet >= 0; sheet--) {
            for (int n = 0; n <= 41; n++) say(s, x.copy(sheet, 0, sheet, 0, n));
            for (int sort = 0; sort < 3; sort++) say(s, x.speaks(sheet, sort, 0, 0));
            say(s, x.judge(sheet));
            say(s, x.place(sheet));
        }
    }

    /** Items 0 .. 9 of sheets 0 .. 2, each told as the month from which 0 and 1 speak; 3 is written over. */
    private static void tellItems(TwoKeys x, StringBuilder s) {
        for (int sheet = 0; sheet < 3; sheet++) {
            int sort = 0;
            while (sort < 2 && x.speaks(sheet, sort, 0, 0) < 0) sort++;
            sheet(x, 3, sort, 0, 1, 0);
            for (int i = 0; i < 10; i++) {
                if (x.copy(sheet, i, 3, 2, 1) < 0) break;
                say(s, x.speaks(3, sort, 0, 1));
                say(s, x.told(0, 1, 0));
            }
        }
    }
}
