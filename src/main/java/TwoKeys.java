import java.util.Arrays;

/** Chests with two locks, whose keys are held by two who don't speak with one another. */
public final class TwoKeys {
    public static final int NONE = -1, BAD = -2, STATE = -3, FULL = -4;
    public static final long NO = -4611686018427387904L;

    private static final int NOTHING = -11, OUTSIDE = -12, OTHER_SORT = -13, BELOW_ZERO = -14;
    private static final int NO_SUCH_WORTH = -100000, FAULT_BASE = -100;

    private static final int LEAST_PEOPLE = 2, MOST_PEOPLE = 6, FIRST_PEOPLE = 5;
    private static final int MOST_PAIRS = 15, MOST_CHESTS = 4, KINDS = 6;
    private static final int LAST_MONTH = 12, NEVER = 13;
    private static final int FIRST_MOST = 4, GREATEST_MOST = 9;
    private static final int GREATEST_NUMBER = 9, GREATEST_GOLD = 99;
    private static final int NO_WAY = 9, GREATEST_TOLD = 99;
    private static final int TAPE_ROOM = 160, MOST_TEXTS = 6, MOST_OPEN = 5, MOST_DIGITS = 4;
    private static final int SHEETS = 4, SHEET_ROOM = 40, SORTS = 3, MISSING = -1;
    private static final int MOST_TRIPLES = 13, MOST_SEEDS = 8, SEED_MONTHS = 14;

    /** The lower and the higher one of each pair, by the pair's number. */
    private static final int[] LOWER = {0, 0, 1, 0, 1, 2, 0, 1, 2, 3, 0, 1, 2, 3, 4};
    private static final int[] HIGHER = {1, 2, 2, 3, 3, 3, 4, 4, 4, 4, 5, 5, 5, 5, 5};

    private static final int PLAIN = 0, PROUD = 1, OPEN = 2, WEDDED = 3, DEEP = 4, STRICT = 5;
    /** The kind that each kind stands under. */
    private static final int[] ABOVE = {NONE, PLAIN, PLAIN, PROUD, OPEN, PROUD};

    /** The three expressions of a text. */
    private static final int MAY_PART = 0, COSTS_PART = 1, FEARS_PART = 2, PARTS = 3;

    /** A text's code is postfix: a number from 0 on stands for itself, these for names and signs. */
    private static final int ONE = -1, OTHER = -2, KEYS = -3, MONTH = -4, FAR = -5, CHEST = -6;
    private static final int NEGATE = -7, DENY = -8;
    private static final int TIMES = -9, PLUS = -10, MINUS = -11, LESS = -12, LIKE = -13, BOTH = -14, EITHER = -15;

    /** Text 0: may 1 ; costs 1 + far ; fears 9 - far ; */
    private static final int[] FIRST_CODE = {1, 1, FAR, PLUS, 9, FAR, MINUS};
    private static final int FIRST_MAY_END = 1, FIRST_COSTS_END = 4;

    /** Kinds of tokens; a sign's kind is its byte, so these lie above all bytes. */
    private static final int END_TOKEN = 256, WRONG_TOKEN = 257, NUMBER_TOKEN = 258, NAME_TOKEN = 259;
    private static final int MAY_KEY = 260, COSTS_KEY = 261, FEARS_KEY = 262;
    private static final int OR_KEY = 263, AND_KEY = 264, NOT_KEY = 265;
    private static final String SIGNS = "();+-*<=";

    private final Town now = new Town();
    private final Town kept = new Town();
    /** What-ifs are tried here, so that no question can change what is. */
    private final Town trial = new Town();
    private boolean isKept = false;
    private final Law law = new Law();
    private final Reader reader = new Reader();
    private final Layings layings = new Layings();
    private final Sheet[] sheets = new Sheet[SHEETS];

    public TwoKeys() {
        for (int i = 0; i < SHEETS; i++) {
            sheets[i] = new Sheet();
        }
    }

    // ---- people, chests

    public int people(int n) {
        if (n < LEAST_PEOPLE || n > MOST_PEOPLE) {
            return BAD;
        }
        int before = now.people;
        now.settle(n);
        return before;
    }

    public int speak(int a, int b, int month) {
        if (!now.canSpeak(a, b, month)) {
            return BAD;
        }
        int pair = pairOf(a, b);
        int before = now.since[pair];
        now.since[pair] = month;
        now.findWays();
        return before;
    }

    public int told(int a, int b, int what) {
        if (!now.areTwo(a, b)) {
            return BAD;
        }
        int pair = pairOf(a, b);
        switch (what) {
            case 0: return now.since[pair];
            case 1: return now.between[pair];
            case 2: return now.bandOf(pair);
            default: return BAD;
        }
    }

    public int chest(int kind, int what) {
        if (kind < 0 || kind >= KINDS || what < 0 || what > 10 * GREATEST_GOLD + GREATEST_NUMBER) {
            return BAD;
        }
        if (now.chests >= MOST_CHESTS) {
            return FULL;
        }
        law.chests[now.chests].become(kind, what % 10, what / 10);
        now.chests++;
        return now.chests - 1;
    }

    public int set(int what, int of, int v) {
        switch (what) {
            case 0: return setMonth(v);
            case 1: return setMost(v);
            case 2: return setNumber(of, v);
            case 3: return setGold(of, v);
            default: return BAD;
        }
    }

    private int setMonth(int v) {
        if (v < 0 || v > LAST_MONTH) {
            return BAD;
        }
        int before = now.month;
        now.month = v;
        now.findWays();
        return before;
    }

    private int setMost(int v) {
        if (v < 1 || v > GREATEST_MOST) {
            return BAD;
        }
        int before = now.most;
        now.most = v;
        return before;
    }

    private int setNumber(int chest, int v) {
        if (!now.hasChest(chest) || v < 0 || v > GREATEST_NUMBER) {
            return BAD;
        }
        int before = law.chests[chest].number;
        law.chests[chest].number = v;
        return before;
    }

    private int setGold(int chest, int v) {
        if (!now.hasChest(chest) || v < 0 || v > GREATEST_GOLD) {
            return BAD;
        }
        int before = law.chests[chest].gold;
        law.chests[chest].gold = v;
        return before;
    }

    public int chestTold(int chest, int what) {
        if (!now.hasChest(chest)) {
            return BAD;
        }
        Chest asked = law.chests[chest];
        int pair = now.held[chest];
        switch (what) {
            case 0: return asked.kind;
            case 1: return asked.number;
            case 2: return asked.gold;
            case 3: return asked.worthIn(now.month);
            case 4: return pair;
            case 5: return pair != NONE && law.allows(now, chest, pair) ? 1 : 0;
            default: return BAD;
        }
    }

    // ---- texts

    public int feed(int letter) {
        if (letter < 0 || letter > 255) {
            return BAD;
        }
        return reader.tape.append(letter) ? reader.tape.size : FULL;
    }

    public int text() {
        if (law.textCount >= MOST_TEXTS) {
            return FULL;
        }
        int fault = reader.read();
        reader.tape.size = 0;
        if (fault != NONE) {
            return FAULT_BASE - fault;
        }
        law.texts[law.textCount] = reader.written();
        law.textCount++;
        return law.textCount - 1;
    }

    public int force(int text) {
        if (text < 0 || text >= law.textCount) {
            return BAD;
        }
        int before = now.rule;
        now.rule = text;
        return before;
    }

    // ---- layings

    public int lay(int chest, int a, int b) {
        if (!now.hasChest(chest) || a != NONE && !now.areTwo(a, b)) {
            return BAD;
        }
        int before = now.held[chest];
        now.hand(chest, a == NONE ? NONE : pairOf(a, b));
        return before;
    }

    public int mayLay(int chest, int pair) {
        if (!now.hasChest(chest) || !now.hasPair(pair)) {
            return BAD;
        }
        return law.allows(now, chest, pair) ? 1 : 0;
    }

    public int lawful(int what) {
        switch (what) {
            case 0: return isLawful() ? 1 : 0;
            case 1: return layingsOf(now);
            case 2: return now.mostKeys();
            default: return BAD;
        }
    }

    private boolean isLawful() {
        for (int chest = 0; chest < now.chests; chest++) {
            if (now.held[chest] == NONE) {
                return false;
            }
        }
        return law.breaches(now) == 0 && now.mostKeys() <= now.most;
    }

    private int layingsOf(Town town) {
        layings.survey(town, law);
        return layings.howMany();
    }

    private boolean hasLayings(Town town) {
        layings.survey(town, law);
        return layings.isAny();
    }

    public int best(int sort, int chest) {
        if (sort < 0 || sort > 1 || chest != NONE && !now.hasChest(chest)) {
            return BAD;
        }
        if (!hasLayings(now)) {
            return STATE;
        }
        int price = sort == 0 ? layings.findLeastMoved(now) : layings.findLargest(now);
        if (chest != NONE) {
            return layings.found[chest];
        }
        return sort == 0 ? price : -price;
    }

    public int move() {
        if (!hasLayings(now)) {
            return STATE;
        }
        int moved = layings.findLeastMoved(now);
        for (int chest = 0; chest < now.chests; chest++) {
            now.hand(chest, layings.found[chest]);
        }
        return moved;
    }

    // ---- quarrels, peace, months

    public int quarrel(int what) {
        if (what < 0 || what > 1) {
            return BAD;
        }
        int pair = cheapestQuarrel();
        return pair == NONE || what == 0 ? pair : law.costsOf(now, pair);
    }

    private int cheapestQuarrel() {
        if (hasLayings(now)) {
            return NONE;
        }
        int cheapest = NONE;
        int least = GREATEST_TOLD + 1;
        for (int pair = 0; pair < now.pairs(); pair++) {
            if (!now.speakNow(pair)) {
                continue;
            }
            int costs = law.costsOf(now, pair);
            if (costs < least && hasLayings(trialOf(pair, NEVER))) {
                cheapest = pair;
                least = costs;
            }
        }
        return cheapest;
    }

    private Town trialOf(int pair, int month) {
        trial.become(now);
        trial.since[pair] = month;
        trial.findWays();
        return trial;
    }

    public int peace(int what) {
        if (what < 0 || what > 1) {
            return BAD;
        }
        int worst = NONE;
        int most = NONE;
        for (int pair = 0; pair < now.pairs(); pair++) {
            if (now.speakNow(pair)) {
                continue;
            }
            int breaches = law.breaches(trialOf(pair, 0));
            if (breaches > most) {
                worst = pair;
                most = breaches;
            }
        }
        return what == 0 ? worst : Math.max(most, 0);
    }

    public int in(int month) {
        if (month < 0 || month > LAST_MONTH) {
            return BAD;
        }
        return breachesIn(month);
    }

    private int breachesIn(int month) {
        trial.become(now);
        trial.month = month;
        trial.findWays();
        return law.breaches(trial);
    }

    public int first() {
        for (int month = now.month; month <= LAST_MONTH; month++) {
            if (breachesIn(month) > 0) {
                return month;
            }
        }
        return NONE;
    }

    public int worth(int what) {
        if (what < 0 || what > 1) {
            return NO_SUCH_WORTH;
        }
        int sum = 0;
        for (int chest = 0; chest < now.chests; chest++) {
            int pair = now.held[chest];
            if (pair != NONE) {
                sum += what == 0 ? law.fearsFor(now, chest, pair) : signedWorth(chest, pair);
            }
        }
        return sum;
    }

    private int signedWorth(int chest, int pair) {
        int worth = law.chests[chest].worthIn(now.month);
        return law.allows(now, chest, pair) ? worth : -worth;
    }

    // ---- bands

    public int opened(int set) {
        if (set < 0 || set >= 1 << now.people) {
            return BAD;
        }
        return now.openedBy(set);
    }

    public int band(int chests, int what) {
        if (chests < 0 || chests >= 1 << now.chests || what < 0 || what > 2) {
            return BAD;
        }
        if (what == 2) {
            return mustOpen(chests);
        }
        int fewest = fewestToOpen(chests);
        return fewest == NONE || what == 0 ? fewest : Integer.bitCount(fewest);
    }

    private int fewestToOpen(int chests) {
        int fewest = NONE;
        int least = MOST_PEOPLE + 1;
        for (int set = 0; set < 1 << now.people; set++) {
            if (Integer.bitCount(set) < least && (now.openedBy(set) & chests) == chests) {
                fewest = set;
                least = Integer.bitCount(set);
            }
        }
        return fewest;
    }

    private int mustOpen(int chests) {
        int all = (1 << now.people) - 1;
        if ((now.openedBy(all) & chests) != chests) {
            return 0;
        }
        int must = all;
        for (int set = 0; set < all; set++) {
            if ((now.openedBy(set) & chests) == chests) {
                must &= set;
            }
        }
        return must;
    }

    public int judge(int sheet) {
        if (!isSheet(sheet)) {
            return BAD;
        }
        Sheet rows = sheets[sheet];
        if (rows.isMissing()) {
            return NOTHING;
        }
        if (rows.size % 2 != 0) {
            return BAD;
        }
        trial.become(now);
        for (int row = 0; row < rows.size / 2; row++) {
            if (!handsOver(rows.items[2 * row], rows.items[2 * row + 1])) {
                return row;
            }
        }
        return NONE;
    }

    private boolean handsOver(int chest, int pair) {
        if (!trial.hasChest(chest) || !trial.hasPair(pair)) {
            return false;
        }
        trial.hand(chest, pair);
        return trial.mostKeys() <= trial.most;
    }

    public int place(int sheet) {
        if (!isSheet(sheet)) {
            return BAD;
        }
        Sheet row = sheets[sheet];
        if (row.isMissing()) {
            return NOTHING;
        }
        if (row.size != now.chests) {
            return BAD;
        }
        layings.survey(now, law);
        return layings.aheadOf(row.items);
    }

    public int drawn(int seed) {
        return layingsOf(townDrawn(seed));
    }

    private Town townDrawn(int seed) {
        trial.become(now);
        int z = seed;
        for (int pair = 0; pair < trial.pairs(); pair++) {
            z = z * 1103515245 + 12345;
            trial.since[pair] = (z >>> 9) % SEED_MONTHS;
        }
        trial.findWays();
        return trial;
    }

    public long chance(int seed, int many, int part) {
        if (many < 1 || many > MOST_SEEDS || part < 0 || part > 1) {
            return NO;
        }
        int lucky = 0;
        for (int i = 0; i < many; i++) {
            if (hasLayings(townDrawn(seed + i))) {
                lucky++;
            }
        }
        int common = commonDivisor(lucky, many);
        return part == 0 ? lucky / common : many / common;
    }

    private static int commonDivisor(int above, int below) {
        for (int d = below; d > 1; d--) {
            if (above % d == 0 && below % d == 0) {
                return d;
            }
        }
        return 1;
    }

    public int image() {
        kept.become(now);
        isKept = true;
        return now.people;
    }

    public int back() {
        if (!isKept) {
            return STATE;
        }
        now.become(kept);
        return now.people;
    }

    public int count(int what) {
        switch (what) {
            case 0: return now.people;
            case 1: return now.chests;
            case 2: return now.month;
            case 3: return now.most;
            case 4: return law.textCount;
            case 5: return reader.tape.size;
            case 6: return now.rule;
            case 7: return now.speakingPairs();
            default: return BAD;
        }
    }

    // ---- the host

    public int sheet(int sheet, int sort, int n) {
        if (!isSheet(sheet) || sort < MISSING || sort >= SORTS) {
            return BAD;
        }
        if (sort == MISSING) {
            sheets[sheet].become(MISSING, 0);
            return 1;
        }
        if (n > SHEET_ROOM) {
            return BAD;
        }
        if (n < 0) {
            return BELOW_ZERO;
        }
        sheets[sheet].become(sort, n);
        return 1;
    }

    public int cell(int sheet, int i, int v) {
        if (!isSheet(sheet)) {
            return BAD;
        }
        Sheet row = sheets[sheet];
        if (row.isMissing()) {
            return NOTHING;
        }
        if (!row.holds(i, 1)) {
            return OUTSIDE;
        }
        row.put(i, v);
        return 1;
    }

    public int copy(int sheet, int i, int other, int j, int n) {
        if (!isSheet(sheet) || !isSheet(other)) {
            return BAD;
        }
        Sheet from = sheets[sheet];
        Sheet to = sheets[other];
        if (from.isMissing() || to.isMissing()) {
            return NOTHING;
        }
        if (from.sort != to.sort) {
            return OTHER_SORT;
        }
        if (!from.holds(i, n) || !to.holds(j, n)) {
            return OUTSIDE;
        }
        System.arraycopy(from.items, i, to.items, j, n);
        return n;
    }

    public int speaks(int sheet, int sort, int from, int n) {
        if (!isSheet(sheet) || sort < 0 || sort >= SORTS || n < 0 || n > MOST_TRIPLES) {
            return BAD;
        }
        Sheet rows = sheets[sheet];
        if (rows.isMissing()) {
            return NOTHING;
        }
        if (rows.sort != sort) {
            return OTHER_SORT;
        }
        int became = 0;
        for (int k = 0; k < n; k++) {
            // k is 0 first, so a from near the greatest int is refused before the sum could wrap
            int at = from + 3 * k;
            if (!rows.holds(at, 3)) {
                return OUTSIDE;
            }
            if (speak(rows.items[at], rows.items[at + 1], rows.items[at + 2]) != BAD) {
                became++;
            }
        }
        return became;
    }

    public int taken(int chest, int k) {
        if (k < 0 || k >= KINDS) {
            return BAD;
        }
        if (!now.hasChest(chest)) {
            return NOTHING;
        }
        Chest asked = law.chests[chest];
        return asked.isUnder(k) ? asked.number : OTHER_SORT;
    }

    private static boolean isSheet(int sheet) {
        return sheet >= 0 && sheet < SHEETS;
    }

    private static int pairOf(int a, int b) {
        int low = Math.min(a, b);
        int high = Math.max(a, b);
        return high * (high - 1) / 2 + low;
    }

    private static boolean isOf(int pair, int person) {
        return LOWER[pair] == person || HIGHER[pair] == person;
    }

    /** All that an image keeps, and the ways between people that follow from it. */
    static final class Town {
        int people = FIRST_PEOPLE;
        int month = 0;
        int most = FIRST_MOST;
        int rule = 0;
        int chests = 0;
        final int[] since = new int[MOST_PAIRS];
        final int[] held = new int[MOST_CHESTS];
        final int[] keys = new int[MOST_PEOPLE];
        final int[] between = new int[MOST_PAIRS];
        final int[] friends = new int[MOST_PEOPLE];

        Town() {
            Arrays.fill(since, NEVER);
            Arrays.fill(held, NONE);
            Arrays.fill(between, NO_WAY);
        }

        void become(Town other) {
            people = other.people;
            month = other.month;
            most = other.most;
            rule = other.rule;
            chests = other.chests;
            System.arraycopy(other.since, 0, since, 0, MOST_PAIRS);
            System.arraycopy(other.held, 0, held, 0, MOST_CHESTS);
            System.arraycopy(other.keys, 0, keys, 0, MOST_PEOPLE);
            System.arraycopy(other.between, 0, between, 0, MOST_PAIRS);
            System.arraycopy(other.friends, 0, friends, 0, MOST_PEOPLE);
        }

        void settle(int n) {
            people = n;
            Arrays.fill(since, NEVER);
            Arrays.fill(held, NONE);
            Arrays.fill(keys, 0);
            findWays();
        }

        int pairs() {
            return people * (people - 1) / 2;
        }

        boolean hasPair(int pair) {
            return pair >= 0 && pair < pairs();
        }

        boolean hasChest(int chest) {
            return chest >= 0 && chest < chests;
        }

        boolean areTwo(int a, int b) {
            return a >= 0 && a < people && b >= 0 && b < people && a != b;
        }

        boolean canSpeak(int a, int b, int from) {
            return areTwo(a, b) && from >= 0 && from <= NEVER;
        }

        boolean speakNow(int pair) {
            return since[pair] <= month;
        }

        int speakingPairs() {
            int sum = 0;
            for (int pair = 0; pair < pairs(); pair++) {
                if (speakNow(pair)) {
                    sum++;
                }
            }
            return sum;
        }

        int bandOf(int pair) {
            return between[pair] == NO_WAY ? NO_WAY : between[pair] + 2;
        }

        /** To be called when people, months or who speaks has changed. */
        void findWays() {
            Arrays.fill(friends, 0);
            for (int pair = 0; pair < pairs(); pair++) {
                boolean speak = speakNow(pair);
                between[pair] = speak ? 0 : NO_WAY;
                if (speak) {
                    friends[LOWER[pair]] |= 1 << HIGHER[pair];
                    friends[HIGHER[pair]] |= 1 << LOWER[pair];
                }
            }
            for (int via = 0; via < people; via++) {
                for (int pair = 0; pair < pairs(); pair++) {
                    shorten(pair, via);
                }
            }
        }

        // a way over somebody who can't be reached is NO_WAY + 1 at least, and so never taken
        private void shorten(int pair, int via) {
            if (isOf(pair, via)) {
                return;
            }
            int way = between[pairOf(LOWER[pair], via)] + 1 + between[pairOf(via, HIGHER[pair])];
            between[pair] = Math.min(between[pair], way);
        }

        void hand(int chest, int pair) {
            addKeys(held[chest], -1);
            held[chest] = pair;
            addKeys(pair, 1);
        }

        private void addKeys(int pair, int by) {
            if (pair != NONE) {
                keys[LOWER[pair]] += by;
                keys[HIGHER[pair]] += by;
            }
        }

        int mostKeys() {
            int greatest = 0;
            for (int person = 0; person < people; person++) {
                greatest = Math.max(greatest, keys[person]);
            }
            return greatest;
        }

        int openedBy(int set) {
            int opened = 0;
            for (int chest = 0; chest < chests; chest++) {
                int pair = held[chest];
                if (pair != NONE && (reachIn(set, LOWER[pair]) >> HIGHER[pair] & 1) != 0) {
                    opened |= 1 << chest;
                }
            }
            return opened;
        }

        /** Whom somebody reaches over people of the set alone, as bits; nobody, if not of the set. */
        private int reachIn(int set, int person) {
            int reached = set & 1 << person;
            for (int step = 1; step < people; step++) {
                int wider = reached;
                for (int other = 0; other < people; other++) {
                    if ((reached >> other & 1) != 0) {
                        wider |= friends[other] & set;
                    }
                }
                if (wider == reached) {
                    return reached;
                }
                reached = wider;
            }
            return reached;
        }
    }

    /** A chest; whom it lets hold its keys and what it is worth follow from its kind. */
    static final class Chest {
        int kind = PLAIN;
        int number = 0;
        int gold = 0;

        void become(int newKind, int newNumber, int newGold) {
            kind = newKind;
            number = newNumber;
            gold = newGold;
        }

        boolean fits(int pair, boolean speak) {
            int a = LOWER[pair];
            int b = HIGHER[pair];
            boolean plain = !speak;
            boolean proud = plain && b != number;
            boolean open = plain || a == number % 3;
            switch (kind) {
                case PROUD: return proud;
                case OPEN: return open;
                case WEDDED: return proud || a < 2 && b < 2;
                case DEEP: return open && a + b != number;
                case STRICT: return proud && b - a > 1;
                default: return plain;
            }
        }

        int worthIn(int month) {
            int proud = gold + number;
            int open = gold / 2;
            switch (kind) {
                case PROUD: return proud;
                case OPEN: return open;
                case WEDDED: return proud + month;
                case DEEP: return Math.max(2 * open - month, 0);
                case STRICT: return Math.max(proud - 5, 0);
                default: return gold;
            }
        }

        boolean isUnder(int k) {
            int own = kind;
            for (int step = 0; step < KINDS && own != NONE; step++) {
                if (own == k) {
                    return true;
                }
                own = ABOVE[own];
            }
            return false;
        }
    }

    /** What the chests and the texts tell of a town. */
    static final class Law {
        final Chest[] chests = new Chest[MOST_CHESTS];
        final Text[] texts = new Text[MOST_TEXTS];
        int textCount = 1;
        /** What a text's code has in hand; each number there is of a token of its own. */
        private final int[] inHand = new int[TAPE_ROOM];

        Law() {
            for (int i = 0; i < MOST_CHESTS; i++) {
                chests[i] = new Chest();
            }
            texts[0] = new Text(FIRST_CODE, FIRST_MAY_END, FIRST_COSTS_END);
        }

        boolean allows(Town town, int chest, int pair) {
            return chests[chest].fits(pair, town.speakNow(pair)) && tell(town, MAY_PART, pair, chest) != 0;
        }

        int costsOf(Town town, int pair) {
            return bounded(tell(town, COSTS_PART, pair, 0));
        }

        int fearsFor(Town town, int chest, int pair) {
            return bounded(tell(town, FEARS_PART, pair, chest));
        }

        /** How many chests are held as they may not be. */
        int breaches(Town town) {
            int sum = 0;
            for (int chest = 0; chest < town.chests; chest++) {
                int pair = town.held[chest];
                if (pair != NONE && !allows(town, chest, pair)) {
                    sum++;
                }
            }
            return sum;
        }

        private static int bounded(int told) {
            return Math.max(0, Math.min(GREATEST_TOLD, told));
        }

        private int tell(Town town, int part, int pair, int chest) {
            Text text = texts[town.rule];
            if (text == null) {
                return 0;
            }
            int size = 0;
            int end = text.endOf(part);
            for (int i = text.startOf(part); i < end; i++) {
                int item = text.code[i];
                if (item >= CHEST && size < TAPE_ROOM) {
                    inHand[size] = item >= 0 ? item : named(item, town, pair, chest);
                    size++;
                } else if (item >= DENY && size > 0) {
                    inHand[size - 1] = turned(item, inHand[size - 1]);
                } else if (size > 1) {
                    size--;
                    inHand[size - 1] = joined(item, inHand[size - 1], inHand[size]);
                }
            }
            return size > 0 ? inHand[0] : 0;
        }

        private static int named(int name, Town town, int pair, int chest) {
            switch (name) {
                case ONE: return LOWER[pair];
                case OTHER: return HIGHER[pair];
                case KEYS: return town.keys[LOWER[pair]] + town.keys[HIGHER[pair]];
                case MONTH: return town.month;
                case FAR: return town.between[pair];
                default: return chest;
            }
        }

        private static int turned(int sign, int v) {
            return sign == NEGATE ? -v : v == 0 ? 1 : 0;
        }

        private static int joined(int sign, int left, int right) {
            switch (sign) {
                case TIMES: return left * right;
                case PLUS: return left + right;
                case MINUS: return left - right;
                case LESS: return left < right ? 1 : 0;
                case LIKE: return left == right ? 1 : 0;
                case BOTH: return left != 0 && right != 0 ? 1 : 0;
                default: return left != 0 || right != 0 ? 1 : 0;
            }
        }
    }

    /** A text as postfix code, its three parts one behind the other. */
    static final class Text {
        final int[] code;
        private final int mayEnd;
        private final int costsEnd;

        Text(int[] code, int mayEnd, int costsEnd) {
            this.code = code;
            this.mayEnd = mayEnd;
            this.costsEnd = costsEnd;
        }

        int startOf(int part) {
            return part == MAY_PART ? 0 : part == COSTS_PART ? mayEnd : costsEnd;
        }

        int endOf(int part) {
            return part == MAY_PART ? mayEnd : part == COSTS_PART ? costsEnd : code.length;
        }
    }

    /** The tape, and the token on it that is being looked at. */
    static final class Tape {
        int size = 0;
        int kind = END_TOKEN;
        /** Of a number its value, of a name its code. */
        int value = 0;
        int place = 0;
        private int behind = 0;
        private final int[] bytes = new int[TAPE_ROOM];

        boolean append(int letter) {
            if (size >= TAPE_ROOM) {
                return false;
            }
            bytes[size] = letter;
            size++;
            return true;
        }

        void rewind() {
            behind = 0;
            advance();
        }

        void advance() {
            place = behind;
            while (place < size && isBlank(bytes[place])) {
                place++;
            }
            behind = place;
            if (place >= size) {
                kind = END_TOKEN;
            } else if (isLetter(bytes[place])) {
                passWord();
                value = nameRead();
                kind = value < 0 ? NAME_TOKEN : keyRead();
            } else if (isDigit(bytes[place])) {
                readNumber();
            } else {
                behind++;
                kind = SIGNS.indexOf((char) bytes[place]) >= 0 ? bytes[place] : WRONG_TOKEN;
            }
        }

        private static boolean isBlank(int letter) {
            return letter == 32 || letter == 10;
        }

        private static boolean isLetter(int letter) {
            return letter >= 'a' && letter <= 'z';
        }

        private static boolean isDigit(int letter) {
            return letter >= '0' && letter <= '9';
        }

        // of a number that is too long the value may wrap: it is not used
        private void readNumber() {
            value = 0;
            while (behind < size && isDigit(bytes[behind])) {
                value = value * 10 + bytes[behind] - '0';
                behind++;
            }
            kind = behind - place > MOST_DIGITS ? WRONG_TOKEN : NUMBER_TOKEN;
        }

        private void passWord() {
            while (behind < size && isLetter(bytes[behind])) {
                behind++;
            }
        }

        private int nameRead() {
            return reads("one") ? ONE
                : reads("other") ? OTHER
                : reads("keys") ? KEYS
                : reads("month") ? MONTH
                : reads("far") ? FAR
                : reads("chest") ? CHEST
                : 0;
        }

        private int keyRead() {
            return reads("may") ? MAY_KEY
                : reads("costs") ? COSTS_KEY
                : reads("fears") ? FEARS_KEY
                : reads("or") ? OR_KEY
                : reads("and") ? AND_KEY
                : reads("not") ? NOT_KEY
                : WRONG_TOKEN;
        }

        private boolean reads(String word) {
            if (behind - place != word.length()) {
                return false;
            }
            for (int i = 0; i < word.length(); i++) {
                if (bytes[place + i] != word.charAt(i)) {
                    return false;
                }
            }
            return true;
        }
    }

    /**
     * Reads the tape as a text and writes its code. From the first fault on nothing is taken or
     * written any more, so every method comes back at once.
     */
    static final class Reader {
        final Tape tape = new Tape();
        private final int[] code = new int[TAPE_ROOM];
        private final int[] ends = new int[PARTS];
        private int size = 0;
        private int open = 0;
        private int fault = NONE;

        /** The place of the fault, or NONE. */
        int read() {
            size = 0;
            open = 0;
            fault = NONE;
            tape.rewind();
            // the keys of the three parts are numbered one behind the other, as the parts are
            for (int part = 0; part < PARTS; part++) {
                need(MAY_KEY + part);
                readEither();
                need(';');
                ends[part] = size;
            }
            need(END_TOKEN);
            return fault;
        }

        Text written() {
            return new Text(Arrays.copyOf(code, size), ends[MAY_PART], ends[COSTS_PART]);
        }

        private void readEither() {
            readBoth();
            for (int i = 0; i < TAPE_ROOM && takes(OR_KEY); i++) {
                readBoth();
                write(EITHER);
            }
        }

        private void readBoth() {
            readNot();
            for (int i = 0; i < TAPE_ROOM && takes(AND_KEY); i++) {
                readNot();
                write(BOTH);
            }
        }

        private void readNot() {
            if (opens(NOT_KEY)) {
                readNot();
                open--;
                write(DENY);
                return;
            }
            readSum();
            if (takes('<')) {
                readSum();
                write(LESS);
            } else if (takes('=')) {
                readSum();
                write(LIKE);
            }
        }

        private void readSum() {
            readTerm();
            for (int i = 0; i < TAPE_ROOM; i++) {
                if (takes('+')) {
                    readTerm();
                    write(PLUS);
                } else if (takes('-')) {
                    readTerm();
                    write(MINUS);
                } else {
                    return;
                }
            }
        }

        private void readTerm() {
            readOne();
            for (int i = 0; i < TAPE_ROOM && takes('*'); i++) {
                readOne();
                write(TIMES);
            }
        }

        private void readOne() {
            int value = tape.value;
            if (takes(NUMBER_TOKEN) || takes(NAME_TOKEN)) {
                write(value);
            } else if (opens('-')) {
                readOne();
                open--;
                write(NEGATE);
            } else if (opens('(')) {
                readEither();
                need(')');
                open--;
            } else {
                refuse();
            }
        }

        private boolean takes(int kind) {
            if (fault != NONE || tape.kind != kind) {
                return false;
            }
            tape.advance();
            return true;
        }

        /** Takes what stays open till what belongs to it ends; this bounds the recursion, too. */
        private boolean opens(int kind) {
            if (fault != NONE || tape.kind != kind) {
                return false;
            }
            if (open >= MOST_OPEN) {
                refuse();
                return false;
            }
            open++;
            tape.advance();
            return true;
        }

        private void need(int kind) {
            if (fault == NONE && tape.kind == kind) {
                tape.advance();
            } else {
                refuse();
            }
        }

        private void refuse() {
            if (fault == NONE) {
                fault = tape.place;
            }
        }

        private void write(int item) {
            if (fault == NONE && size < TAPE_ROOM) {
                code[size] = item;
                size++;
            }
        }
    }

    /** The layings of a town, which are counted and searched chest by chest, never kept. */
    static final class Layings {
        private static final int FAR_ABOVE = 1000000;

        /** The pairs of the best laying, behind findLeastMoved and findLargest. */
        final int[] found = new int[MOST_CHESTS];
        private final int[] row = new int[MOST_CHESTS];
        /** For each chest the pairs on which it may be laid, as bits. */
        private final int[] may = new int[MOST_CHESTS];
        private final int[] pairsOf = new int[MOST_PEOPLE];
        private final int[] keys = new int[MOST_PEOPLE];
        private final int[] prices = new int[MOST_CHESTS * MOST_PAIRS];
        /** What the chests from one on cost at the least. */
        private final int[] rest = new int[MOST_CHESTS + 1];
        private int lowest = FAR_ABOVE;
        private int chests = 0;
        private int most = FIRST_MOST;

        Layings() {
            for (int pair = 0; pair < MOST_PAIRS; pair++) {
                pairsOf[LOWER[pair]] |= 1 << pair;
                pairsOf[HIGHER[pair]] |= 1 << pair;
            }
        }

        /** To be called ahead of all questions about a town. */
        void survey(Town town, Law law) {
            chests = town.chests;
            most = town.most;
            Arrays.fill(keys, 0);
            for (int chest = 0; chest < chests; chest++) {
                may[chest] = 0;
                for (int pair = 0; pair < town.pairs(); pair++) {
                    if (law.allows(town, chest, pair)) {
                        may[chest] |= 1 << pair;
                    }
                }
            }
        }

        int howMany() {
            return hasHomeless() ? 0 : rowsFrom(0, 0);
        }

        boolean isAny() {
            return !hasHomeless() && anyFrom(0, 0);
        }

        // without this a last chest that fits nowhere would be found out row by row
        private boolean hasHomeless() {
            for (int chest = 0; chest < chests; chest++) {
                if (may[chest] == 0) {
                    return true;
                }
            }
            return false;
        }

        /** How many rows there are for the chests from one on; barred: pairs of those who hold most. */
        private int rowsFrom(int chest, int barred) {
            if (chest >= chests) {
                return 1;
            }
            int open = may[chest] & ~barred;
            if (chest == chests - 1) {
                return Integer.bitCount(open);
            }
            int sum = 0;
            for (int pair = 0; pair < MOST_PAIRS; pair++) {
                if ((open >> pair & 1) != 0) {
                    sum += rowsFrom(chest + 1, barred | give(pair));
                    takeBack(pair);
                }
            }
            return sum;
        }

        private boolean anyFrom(int chest, int barred) {
            if (chest >= chests) {
                return true;
            }
            int open = may[chest] & ~barred;
            boolean any = false;
            for (int pair = 0; pair < MOST_PAIRS && !any; pair++) {
                if ((open >> pair & 1) != 0) {
                    any = anyFrom(chest + 1, barred | give(pair));
                    takeBack(pair);
                }
            }
            return any;
        }

        /** Gives two a key each: the pairs that are barred from now on because of them. */
        private int give(int pair) {
            keys[LOWER[pair]]++;
            keys[HIGHER[pair]]++;
            return barredBy(LOWER[pair]) | barredBy(HIGHER[pair]);
        }

        private int barredBy(int person) {
            return keys[person] >= most ? pairsOf[person] : 0;
        }

        private void takeBack(int pair) {
            keys[LOWER[pair]]--;
            keys[HIGHER[pair]]--;
        }

        /** How many layings are ahead of a row of as many numbers as there are chests; NONE: it is none. */
        int aheadOf(int[] pairs) {
            int ahead = 0;
            int barred = 0;
            for (int chest = 0; chest < chests && chest < pairs.length; chest++) {
                int own = pairs[chest];
                int open = may[chest] & ~barred;
                if (own < 0 || own >= MOST_PAIRS || (open >> own & 1) == 0) {
                    return NONE;
                }
                for (int pair = 0; pair < own; pair++) {
                    if ((open >> pair & 1) != 0) {
                        ahead += rowsFrom(chest + 1, barred | give(pair));
                        takeBack(pair);
                    }
                }
                barred |= give(own);
            }
            return ahead;
        }

        /** How many keys the laying moves for which it is fewest. */
        int findLeastMoved(Town town) {
            for (int chest = 0; chest < chests; chest++) {
                for (int pair = 0; pair < town.pairs(); pair++) {
                    prices[chest * MOST_PAIRS + pair] = keysMoved(town.held[chest], pair);
                }
            }
            return findCheapest();
        }

        /** The sum of bands, negated, of the laying for which it is largest. */
        int findLargest(Town town) {
            for (int chest = 0; chest < chests; chest++) {
                for (int pair = 0; pair < town.pairs(); pair++) {
                    prices[chest * MOST_PAIRS + pair] = -town.bandOf(pair);
                }
            }
            return findCheapest();
        }

        private static int keysMoved(int from, int to) {
            if (from == NONE) {
                return 0;
            }
            return 2 - (isOf(from, LOWER[to]) ? 1 : 0) - (isOf(from, HIGHER[to]) ? 1 : 0);
        }

        private int findCheapest() {
            rest[chests] = 0;
            for (int chest = chests - 1; chest >= 0; chest--) {
                rest[chest] = rest[chest + 1] + leastPrice(chest);
            }
            lowest = FAR_ABOVE;
            searchFrom(0, 0, 0);
            return lowest;
        }

        private int leastPrice(int chest) {
            int least = FAR_ABOVE;
            for (int pair = 0; pair < MOST_PAIRS; pair++) {
                if ((may[chest] >> pair & 1) != 0) {
                    least = Math.min(least, prices[chest * MOST_PAIRS + pair]);
                }
            }
            return least;
        }

        // rows come in their order, so only a lower price makes a later one better
        private void searchFrom(int chest, int barred, int price) {
            if (price + rest[chest] >= lowest) {
                return;
            }
            if (chest >= chests) {
                lowest = price;
                System.arraycopy(row, 0, found, 0, MOST_CHESTS);
                return;
            }
            int open = may[chest] & ~barred;
            for (int pair = 0; pair < MOST_PAIRS; pair++) {
                if ((open >> pair & 1) != 0) {
                    row[chest] = pair;
                    searchFrom(chest + 1, barred | give(pair), price + prices[chest * MOST_PAIRS + pair]);
                    takeBack(pair);
                }
            }
        }
    }

    /** A row of numbers of a sort, or missing. */
    static final class Sheet {
        int sort = MISSING;
        int size = 0;
        final int[] items = new int[SHEET_ROOM];

        void become(int newSort, int newSize) {
            sort = newSort;
            size = newSize;
            Arrays.fill(items, 0);
        }

        boolean isMissing() {
            return sort == MISSING;
        }

        boolean holds(int from, int n) {
            return from >= 0 && n >= 0 && n <= size && from <= size - n;
        }

        void put(int i, int v) {
            items[i] = sort == 0 ? (byte) v : sort == 1 ? (short) v : v;
        }
    }
}
