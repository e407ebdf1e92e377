import java.lang.reflect.Method;
import java.util.ArrayList;
import java.util.Arrays;
import java.util.HashMap;
import java.util.List;
import java.util.Map;
import java.util.Random;

/** Runs of calls, drawn with fixed seeds, on TwoKeys and on PlainKeys: both must answer the same. */
public final class PlainTest {
    private static final int RUNS = Integer.getInteger("runs", 900);
    /** What an object answers behind its 512th call is free. */
    private static final int MOST_CALLS = 512, CALLS_OF_WHOLE = 200, CALLS_OF_STEP = 40;
    private static final long FIRST_SEED = Long.getLong("seed", 20261118L);
    private static final int[] EDGES =
        {-1, 0, 1, 2, 12, 13, 14, 15, 16, 31, 32, 40, 41, 63, 64, 128, 255, 256, 65535, 65536,
         Integer.MAX_VALUE, Integer.MIN_VALUE, Integer.MAX_VALUE - 1, -2, -3};

    private static final Map<String, Method> KEYS = methodsOf(TwoKeys.class);
    private static final Map<String, Method> PLAIN = methodsOf(PlainKeys.class);

    private final Random random;
    private final TwoKeys keys = new TwoKeys();
    private final PlainKeys plain = new PlainKeys();
    private final List<String> told = new ArrayList<>();
    private int n = 5;
    private boolean isRight = true;

    private PlainTest(long seed) {
        random = new Random(seed);
    }

    public static void main(String[] args) {
        for (int run = 0; run < RUNS; run++) {
            PlainTest test = new PlainTest(FIRST_SEED + run);
            test.run(run);
            Check.holds("run " + run, test.isRight);
        }
        Check.end();
    }

    private static Map<String, Method> methodsOf(Class<?> of) {
        Map<String, Method> all = new HashMap<>();
        for (Method m : of.getDeclaredMethods()) {
            if (!java.lang.reflect.Modifier.isPrivate(m.getModifiers())) {
                all.put(m.getName(), m);
            }
        }
        return all;
    }

    private long call(String name, int... args) {
        Object[] all = Arrays.stream(args).boxed().toArray();
        try {
            long got = ((Number) KEYS.get(name).invoke(keys, all)).longValue();
            long want = ((Number) PLAIN.get(name).invoke(plain, all)).longValue();
            told.add(name + Arrays.toString(args) + " -> " + got);
            if (got != want && isRight) {
                isRight = false;
                told.forEach(System.out::println);
                System.out.println("due is " + want);
            }
            return want;
        } catch (ReflectiveOperationException e) {
            throw new IllegalStateException(name + Arrays.toString(args), e);
        }
    }

    private int upTo(int most) {
        return random.nextInt(most + 1);
    }

    /** Mostly 0 .. most, sometimes an edge or far off. */
    private int about(int most) {
        int dice = random.nextInt(40);
        if (dice == 0) {
            return EDGES[random.nextInt(EDGES.length)];
        }
        return dice == 1 ? most + 1 : dice == 2 ? -1 : upTo(most);
    }

    private void run(int run) {
        // few people and chests keep most runs quick, a run in four has all of them
        int people = run % 4 == 0 ? 6 : 2 + random.nextInt(4);
        if (random.nextInt(3) > 0) {
            call("people", people);
            n = people;
        }
        int chests = run % 4 == 0 ? 4 : random.nextInt(4);
        for (int i = 0; i < chests; i++) {
            call("chest", upTo(5), upTo(999));
        }
        if (run % 3 == 0) {
            talkative();
        } else {
            int speaking = random.nextInt(16);
            for (int i = 0; i < speaking; i++) {
                call("speak", upTo(n - 1), upTo(n - 1), upTo(random.nextBoolean() ? 1 : 13));
            }
        }
        for (int chest = 0; chest < chests; chest++) {
            call("lay", chest, upTo(n - 1), upTo(n - 1));
        }
        while (isRight && callsLeft() >= CALLS_OF_STEP) {
            step();
        }
        whole();
        while (told.size() < MOST_CALLS) {
            question();
        }
        Check.holds("run " + run + " has " + told.size() + " calls", told.size() == MOST_CALLS);
    }

    /** What is left of the 512 calls, each of which must answer as the first ones do. */
    private void question() {
        int chests = plain.count(1);
        switch (random.nextInt(9)) {
            case 0: call("lawful", upTo(2)); break;
            case 1: call("best", upTo(1), upTo(chests) - 1); break;
            case 2: call("quarrel", upTo(1)); break;
            case 3: call("peace", upTo(1)); break;
            case 4: call("in", upTo(12)); break;
            case 5: call("worth", upTo(1)); break;
            case 6: call("opened", upTo((1 << n) - 1)); break;
            case 7: call("band", upTo((1 << chests) - 1), upTo(2)); break;
            default: call("judge", upTo(3)); break;
        }
    }

    /** How many there may be ahead of whole(). */
    private int callsLeft() {
        return MOST_CALLS - CALLS_OF_WHOLE - told.size();
    }

    /** Nearly all speak: there are seldom layings, so that quarrels matter. */
    private void talkative() {
        for (int b = 1; b < n; b++) {
            for (int a = 0; a < b; a++) {
                call("speak", a, b, random.nextInt(30) == 0 ? 13 : upTo(2));
            }
        }
        call("set", 0, 0, upTo(3));
        for (int what = 0; what < 2; what++) {
            call("quarrel", what);
        }
    }

    private void step() {
        switch (random.nextInt(36)) {
            case 0: if (random.nextInt(4) == 0) { n = random.nextInt(20) == 0 ? n : 2 + random.nextInt(5); call("people", n); } else { call("people", random.nextBoolean() ? 1 : 7); } break;
            case 1: case 2: call("speak", about(n - 1), about(n - 1), about(13)); break;
            case 3: call("told", about(n - 1), about(n - 1), about(2)); break;
            case 4: call("chest", about(5), about(999)); break;
            case 5: case 6: set(); break;
            case 7: call("chestTold", about(3), about(5)); break;
            case 8: call("feed", about(255)); break;
            case 9: case 10: text(); break;
            case 11: call("force", about((int) call("count", 4) - 1)); break;
            case 12: case 13: case 14: call("lay", about(3), about(n - 1), about(n - 1)); break;
            case 15: call("mayLay", about(3), about(n * (n - 1) / 2 - 1)); break;
            case 16: call("lawful", about(2)); break;
            case 17: call("best", about(1), about(4) - 1); break;
            case 18: if (random.nextInt(3) == 0) { call("move"); } break;
            case 19: call("quarrel", about(1)); break;
            case 20: call("peace", about(1)); break;
            case 21: call("in", about(12)); break;
            case 22: call("first"); break;
            case 23: call("worth", about(1)); break;
            case 24: call("opened", about((1 << n) - 1)); break;
            case 25: call("band", about((1 << (int) call("count", 1)) - 1), about(2)); break;
            case 26: judge(); break;
            case 27: place(); break;
            case 28: call("drawn", random.nextInt()); break;
            case 29: call("chance", random.nextInt(), random.nextInt(4) == 0 ? about(8) : 1 + upTo(2), about(1)); break;
            case 30: if (random.nextInt(3) == 0) { call("image"); } break;
            case 31: if (random.nextInt(2) == 0 && call("back") > 0) { n = (int) call("count", 0); } break;
            case 32: call("count", about(7)); break;
            case 33: host(); break;
            case 34: speaks(); break;
            default: call("taken", about(3), about(5)); break;
        }
    }

    private void set() {
        switch (random.nextInt(4)) {
            case 0: call("set", 0, about(3), about(12)); break;
            case 1: call("set", 1, about(3), random.nextInt(5) == 0 ? about(9) : 1 + upTo(3)); break;
            case 2: call("set", 2, about(3), about(9)); break;
            default: call("set", about(4), about(3), about(99)); break;
        }
    }

    private void judge() {
        int rows = upTo(5);
        int sheet = upTo(3);
        call("sheet", sheet, upTo(2), random.nextInt(10) == 0 ? 2 * rows + 1 : 2 * rows);
        for (int i = 0; i < rows; i++) {
            call("cell", sheet, 2 * i, random.nextInt(8) == 0 ? about(3) : upTo(Math.max((int) call("count", 1) - 1, 0)));
            call("cell", sheet, 2 * i + 1, random.nextInt(8) == 0 ? about(14) : upTo(n * (n - 1) / 2 - 1));
        }
        call("judge", about(3));
        call("judge", sheet);
    }

    private void place() {
        int sheet = upTo(3);
        int chests = (int) call("count", 1);
        call("sheet", sheet, upTo(2), random.nextInt(10) == 0 ? chests + 1 : chests);
        int sort = random.nextInt(3);
        for (int i = 0; i < chests; i++) {
            int pair = sort == 2 ? upTo(n * (n - 1) / 2 - 1) : (int) call("best", sort, i);
            call("cell", sheet, i, random.nextInt(5) == 0 ? about(14) : pair);
        }
        call("place", about(3));
        call("place", sheet);
    }

    private void host() {
        switch (random.nextInt(4)) {
            case 0: call("sheet", about(3), upTo(3) - 1, about(40)); break;
            case 1: call("sheet", about(3), about(2), about(40)); break;
            case 2: call("cell", about(3), about(20), about(14)); break;
            default: copy(); break;
        }
    }

    private void copy() {
        int sheet = upTo(3);
        int other = upTo(3);
        if (random.nextInt(3) > 0) {
            int sort = upTo(2);
            call("sheet", other, sort, 5 + upTo(8));
            call("sheet", sheet, sort, 6);
            for (int i = 0; i < 6; i++) {
                call("cell", sheet, i, i % 3 == 2 ? upTo(13) : upTo(n - 1));
            }
            call("copy", sheet, upTo(3), other, upTo(5), upTo(4));
            call("speaks", other, sort, 0, 2);
        }
        call("copy", about(3), about(10), about(3), about(10), about(10));
    }

    private void speaks() {
        int sheet = upTo(3);
        int sort = upTo(2);
        if (random.nextInt(2) == 0) {
            int rows = upTo(4);
            call("sheet", sheet, sort, 3 * rows + upTo(2));
            for (int i = 0; i < rows; i++) {
                call("cell", sheet, 3 * i, about(n - 1));
                call("cell", sheet, 3 * i + 1, about(n - 1));
                call("cell", sheet, 3 * i + 2, about(13));
            }
            call("speaks", sheet, sort, random.nextInt(4) == 0 ? about(3) : 0, upTo(rows + 1));
        } else {
            call("speaks", about(3), about(2), about(6), about(13));
        }
    }

    private void text() {
        if (call("count", 5) > 0 && random.nextInt(3) > 0) {
            call("text");
        }
        if (call("count", 4) == 6) {
            return;
        }
        StringBuilder s = new StringBuilder();
        for (String key : new String[] {"may", "costs", "fears"}) {
            s.append(key).append(' ');
            if (key.equals("may") && random.nextInt(3) == 0) {
                s.append("1 or ");
            }
            either(s, 2);
            s.append(';');
        }
        if (s.length() > 160 && random.nextInt(5) > 0 || s.length() + CALLS_OF_STEP > callsLeft()) {
            return;
        }
        if (random.nextInt(3) == 0) {
            mar(s);
        }
        for (int i = 0; i < s.length(); i++) {
            call("feed", s.charAt(i));
        }
        if (call("text") > 0) {
            call("force", (int) call("count", 4) - 1);
        }
    }

    private void mar(StringBuilder s) {
        String with = "();+-*<= \n01a zAnotormayone\u0000\u00e9\t";
        int place = random.nextInt(s.length());
        switch (random.nextInt(4)) {
            case 0: s.setCharAt(place, with.charAt(random.nextInt(with.length()))); break;
            case 1: s.deleteCharAt(place); break;
            case 2: s.setLength(place); break;
            default: s.insert(place, with.charAt(random.nextInt(with.length()))); break;
        }
    }

    private void blank(StringBuilder s) {
        String[] blanks = {"", "", " ", "\n"};
        s.append(blanks[random.nextInt(blanks.length)]);
    }

    private void either(StringBuilder s, int depth) {
        both(s, depth);
        while (random.nextInt(6) == 0) {
            s.append(" or ");
            both(s, depth);
        }
    }

    private void both(StringBuilder s, int depth) {
        not(s, depth);
        while (random.nextInt(6) == 0) {
            s.append(" and ");
            not(s, depth);
        }
    }

    private void not(StringBuilder s, int depth) {
        if (random.nextInt(8) == 0) {
            s.append("not ");
            not(s, depth);
            return;
        }
        sum(s, depth);
        if (random.nextInt(2) == 0) {
            blank(s);
            s.append(random.nextBoolean() ? '<' : '=');
            sum(s, depth);
        }
    }

    private void sum(StringBuilder s, int depth) {
        one(s, depth);
        while (random.nextInt(3) == 0) {
            blank(s);
            s.append("+-*".charAt(random.nextInt(3)));
            blank(s);
            one(s, depth);
        }
    }

    private void one(StringBuilder s, int depth) {
        String[] names = {"one", "other", "keys", "month", "far", "chest"};
        int dice = random.nextInt(12);
        if (dice < 2 && depth > 0) {
            s.append('(');
            either(s, depth - 1);
            s.append(')');
        } else if (dice == 2) {
            s.append('-');
            one(s, depth);
        } else if (dice < 9) {
            s.append(names[random.nextInt(names.length)]);
        } else {
            s.append(random.nextInt(random.nextInt(8) == 0 ? 9999 : 12));
        }
    }

    /** Tells all that can be told, so that what a refused call changed would show. */
    private void whole() {
        for (int what = 0; what < 8; what++) {
            call("count", what);
        }
        for (int pair = 0; pair < n * (n - 1) / 2; pair++) {
            for (int chest = 0; chest < 4; chest++) {
                call("mayLay", chest, pair);
            }
        }
        for (int a = 0; a < n; a++) {
            for (int b = 0; b < n; b++) {
                for (int what = 0; what < 3; what++) {
                    call("told", a, b, what);
                }
            }
        }
        for (int chest = 0; chest < 4; chest++) {
            for (int what = 0; what < 6; what++) {
                call("chestTold", chest, what);
            }
        }
    }
}
