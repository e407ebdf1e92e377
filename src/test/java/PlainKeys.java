import java.util.ArrayDeque;
import java.util.ArrayList;
import java.util.Arrays;
import java.util.Deque;
import java.util.List;

/**
 * The document once more, as plainly as can be: nothing is kept that can be told anew, all layings
 * are listed, texts are trees, and a fault is thrown. PlainTest compares TwoKeys with it.
 */
final class PlainKeys {
    static final int NONE = -1, BAD = -2, STATE = -3, FULL = -4;
    static final long NO = -4611686018427387904L;

    /** What an image keeps. */
    private static final class State {
        int n = 5, month = 0, most = 4, rule = 0;
        int[][] since = never();
        List<int[]> laying = new ArrayList<>();

        static int[][] never() {
            int[][] rows = new int[6][6];
            for (int[] row : rows) Arrays.fill(row, 13);
            return rows;
        }

        State twin() {
            State t = new State();
            t.n = n; t.month = month; t.most = most; t.rule = rule;
            for (int i = 0; i < 6; i++) t.since[i] = since[i].clone();
            for (int[] two : laying) t.laying.add(two);
            return t;
        }

        boolean speak(int a, int b) { return since[a][b] <= month; }

        void agree(int a, int b, int m) { since[a][b] = m; since[b][a] = m; }

        int far(int a, int b, int within) {
            int[] steps = new int[6];
            Arrays.fill(steps, -1);
            if ((within >> a & 1) == 0 || (within >> b & 1) == 0) return 9;
            steps[a] = 0;
            Deque<Integer> queue = new ArrayDeque<>();
            queue.add(a);
            while (!queue.isEmpty()) {
                int p = queue.poll();
                for (int q = 0; q < n; q++) {
                    if (q != p && (within >> q & 1) == 1 && steps[q] < 0 && speak(p, q)) {
                        steps[q] = steps[p] + 1;
                        queue.add(q);
                    }
                }
            }
            return steps[b] < 0 ? 9 : steps[b] - 1;
        }

        int far(int a, int b) { return far(a, b, 63); }

        int keys(int p) {
            int k = 0;
            for (int[] two : laying) if (two != null && (two[0] == p || two[1] == p)) k++;
            return k;
        }

        int mostKeys() {
            int k = 0;
            for (int p = 0; p < n; p++) k = Math.max(k, keys(p));
            return k;
        }
    }

    private interface Kind {
        boolean fits(int number, int a, int b, boolean s);
        int worth(int number, int gold, int month);
    }

    private static class Chest implements Kind {
        public boolean fits(int number, int a, int b, boolean s) { return !s; }
        public int worth(int number, int gold, int month) { return gold; }
    }
    private static class Proud extends Chest {
        public boolean fits(int number, int a, int b, boolean s) { return super.fits(number, a, b, s) && b != number; }
        public int worth(int number, int gold, int month) { return super.worth(number, gold, month) + number; }
    }
    private static class Open extends Chest {
        public boolean fits(int number, int a, int b, boolean s) { return super.fits(number, a, b, s) || a == number % 3; }
        public int worth(int number, int gold, int month) { return super.worth(number, gold, month) / 2; }
    }
    private static final class Wedded extends Proud {
        public boolean fits(int number, int a, int b, boolean s) { return super.fits(number, a, b, s) || a < 2 && b < 2; }
        public int worth(int number, int gold, int month) { return super.worth(number, gold, month) + month; }
    }
    private static final class Deep extends Open {
        public boolean fits(int number, int a, int b, boolean s) { return super.fits(number, a, b, s) && a + b != number; }
        public int worth(int number, int gold, int month) { return super.worth(number, gold, month) * 2 - month; }
    }
    private static final class Strict extends Proud {
        public boolean fits(int number, int a, int b, boolean s) { return super.fits(number, a, b, s) && b - a > 1; }
        public int worth(int number, int gold, int month) { return super.worth(number, gold, month) - 5; }
    }

    private static final Kind[] KINDS = {new Chest(), new Proud(), new Open(), new Wedded(), new Deep(), new Strict()};
    private static final Class<?>[] CLASSES =
        {Chest.class, Proud.class, Open.class, Wedded.class, Deep.class, Strict.class};

    /** What names tell: one, other, keys, month, far, chest. */
    private interface Node { int tell(int[] names); }

    private static final class Fault extends Exception {
        private static final long serialVersionUID = 1L;
        final int place;
        Fault(int place) { this.place = place; }
    }

    private static final class Token {
        final String word;
        final int place;
        Token(String word, int place) { this.word = word; this.place = place; }
    }

    private static final List<String> NAMES = List.of("one", "other", "keys", "month", "far", "chest");
    private static final List<String> KEYS = List.of("may", "costs", "fears", "or", "and", "not");

    /** Reads tokens on demand, so that the first fault from the left is the one that is told. */
    private static final class Parser {
        final String s;
        int at = 0;
        int open = 0;
        Parser(String s) { this.s = s; }

        Token look() throws Fault {
            int i = at;
            while (i < s.length() && (s.charAt(i) == ' ' || s.charAt(i) == '\n')) i++;
            if (i == s.length()) return new Token("", i);
            int j = i;
            char c = s.charAt(i);
            if (c >= 'a' && c <= 'z') {
                while (j < s.length() && s.charAt(j) >= 'a' && s.charAt(j) <= 'z') j++;
                String w = s.substring(i, j);
                if (!NAMES.contains(w) && !KEYS.contains(w)) throw new Fault(i);
                return new Token(w, i);
            }
            if (c >= '0' && c <= '9') {
                while (j < s.length() && s.charAt(j) >= '0' && s.charAt(j) <= '9') j++;
                if (j - i > 4) throw new Fault(i);
                return new Token(s.substring(i, j), i);
            }
            if ("();+-*<=".indexOf(c) < 0) throw new Fault(i);
            return new Token(s.substring(i, i + 1), i);
        }

        boolean isNext(String w) throws Fault { return look().word.equals(w); }

        Token take() throws Fault {
            Token t = look();
            at = t.place + t.word.length();
            return t;
        }

        void need(String w) throws Fault {
            Token t = look();
            if (!t.word.equals(w)) throw new Fault(t.place);
            take();
        }

        void deeper() throws Fault {
            Token t = look();
            if (open == 5) throw new Fault(t.place);
            open++;
            take();
        }

        Node[] text() throws Fault {
            Node[] parts = new Node[3];
            for (int i = 0; i < 3; i++) {
                need(KEYS.get(i));
                parts[i] = e();
                need(";");
            }
            need("");
            return parts;
        }

        Node e() throws Fault {
            Node left = and();
            while (isNext("or")) {
                take();
                Node l = left, r = and();
                left = names -> l.tell(names) != 0 | r.tell(names) != 0 ? 1 : 0;
            }
            return left;
        }

        Node and() throws Fault {
            Node left = not();
            while (isNext("and")) {
                take();
                Node l = left, r = not();
                left = names -> l.tell(names) != 0 & r.tell(names) != 0 ? 1 : 0;
            }
            return left;
        }

        Node not() throws Fault {
            if (isNext("not")) {
                deeper();
                Node of = not();
                open--;
                return names -> of.tell(names) == 0 ? 1 : 0;
            }
            Node l = sum();
            if (isNext("<")) {
                take();
                Node r = sum();
                return names -> l.tell(names) < r.tell(names) ? 1 : 0;
            }
            if (isNext("=")) {
                take();
                Node r = sum();
                return names -> l.tell(names) == r.tell(names) ? 1 : 0;
            }
            return l;
        }

        Node sum() throws Fault {
            Node left = term();
            while (isNext("+") || isNext("-")) {
                int sign = take().word.equals("+") ? 1 : -1;
                Node l = left, r = term();
                left = names -> l.tell(names) + sign * r.tell(names);
            }
            return left;
        }

        Node term() throws Fault {
            Node left = one();
            while (isNext("*")) {
                take();
                Node l = left, r = one();
                left = names -> l.tell(names) * r.tell(names);
            }
            return left;
        }

        Node one() throws Fault {
            Token t = look();
            if (NAMES.contains(t.word)) {
                take();
                int i = NAMES.indexOf(t.word);
                return names -> names[i];
            }
            if (t.word.matches("[0-9]+")) {
                take();
                int v = Integer.parseInt(t.word);
                return names -> v;
            }
            if (t.word.equals("-")) {
                deeper();
                Node of = one();
                open--;
                return names -> -of.tell(names);
            }
            if (t.word.equals("(")) {
                deeper();
                Node of = e();
                need(")");
                open--;
                return of;
            }
            throw new Fault(t.place);
        }
    }

    private State state = new State();
    private State kept = null;
    private final List<int[]> chests = new ArrayList<>();
    private final List<Node[]> texts = new ArrayList<>();
    private final StringBuilder tape = new StringBuilder();
    /** byte[], short[], int[] or null. */
    private final Object[] sheets = new Object[4];

    PlainKeys() {
        try {
            texts.add(new Parser("may 1 ; costs 1 + far ; fears 9 - far ;").text());
        } catch (Fault f) {
            throw new IllegalStateException(f);
        }
    }

    private static List<int[]> pairs(int n) {
        List<int[]> all = new ArrayList<>();
        for (int b = 1; b < n; b++) for (int a = 0; a < b; a++) all.add(new int[] {a, b});
        return all;
    }

    private static int number(int[] two) {
        return two == null ? NONE : two[1] * (two[1] - 1) / 2 + two[0];
    }

    private boolean two(int a, int b) { return a >= 0 && b >= 0 && a < state.n && b < state.n && a != b; }
    private boolean isChest(int c) { return c >= 0 && c < chests.size(); }

    private int tell(State s, int part, int[] two, int chest) {
        int[] names = {two[0], two[1], s.keys(two[0]) + s.keys(two[1]), s.month, s.far(two[0], two[1]), chest};
        return texts.get(s.rule)[part].tell(names);
    }

    private static int bound(int v) { return v < 0 ? 0 : v > 99 ? 99 : v; }

    private boolean may(State s, int c, int[] two) {
        int[] chest = chests.get(c);
        return KINDS[chest[0]].fits(chest[1], two[0], two[1], s.speak(two[0], two[1])) && tell(s, 0, two, c) != 0;
    }

    private int worthOf(int c, int month) {
        int[] chest = chests.get(c);
        return Math.max(0, KINDS[chest[0]].worth(chest[1], chest[2], month));
    }

    private List<int[]> layings(State s) {
        List<int[]> all = pairs(s.n);
        int size = chests.size();
        boolean[][] may = new boolean[size][all.size()];
        for (int c = 0; c < size; c++) for (int p = 0; p < all.size(); p++) may[c][p] = may(s, c, all.get(p));
        List<int[]> rows = new ArrayList<>();
        int many = (int) Math.round(Math.pow(all.size(), size));
        for (int k = 0; k < many; k++) {
            int[] row = new int[size];
            int[] keys = new int[6];
            int rest = k;
            boolean good = true;
            for (int c = size - 1; c >= 0 && good; c--) {
                row[c] = rest % all.size();
                rest /= all.size();
                good &= may[c][row[c]];
                keys[all.get(row[c])[0]]++;
                keys[all.get(row[c])[1]]++;
            }
            for (int p = 0; p < 6; p++) good &= keys[p] <= s.most;
            if (good) rows.add(row);
        }
        return rows;
    }

    private int bandOf(State s, int[] two) {
        int far = s.far(two[0], two[1]);
        return far == 9 ? 9 : far + 2;
    }

    private int breaches(State s) {
        int k = 0;
        for (int c = 0; c < chests.size(); c++) if (s.laying.get(c) != null && !may(s, c, s.laying.get(c))) k++;
        return k;
    }

    int people(int n) {
        if (n < 2 || n > 6) return BAD;
        int old = state.n;
        state.n = n;
        state.since = State.never();
        for (int c = 0; c < chests.size(); c++) state.laying.set(c, null);
        return old;
    }

    int speak(int a, int b, int month) {
        if (!two(a, b) || month < 0 || month > 13) return BAD;
        int old = state.since[a][b];
        state.agree(a, b, month);
        return old;
    }

    int told(int a, int b, int what) {
        if (!two(a, b) || what < 0 || what > 2) return BAD;
        return what == 0 ? state.since[a][b] : what == 1 ? state.far(a, b) : bandOf(state, new int[] {a, b});
    }

    int chest(int kind, int what) {
        if (kind < 0 || kind > 5 || what < 0 || what > 999) return BAD;
        if (chests.size() == 4) return FULL;
        chests.add(new int[] {kind, what % 10, what / 10});
        state.laying.add(null);
        return chests.size() - 1;
    }

    int set(int what, int of, int v) {
        int old;
        if (what == 0) {
            if (v < 0 || v > 12) return BAD;
            old = state.month;
            state.month = v;
            return old;
        }
        if (what == 1) {
            if (v < 1 || v > 9) return BAD;
            old = state.most;
            state.most = v;
            return old;
        }
        if (what < 0 || what > 3 || !isChest(of) || v < 0 || v > (what == 2 ? 9 : 99)) return BAD;
        old = chests.get(of)[what - 1];
        chests.get(of)[what - 1] = v;
        return old;
    }

    int chestTold(int chest, int what) {
        if (!isChest(chest) || what < 0 || what > 5) return BAD;
        if (what < 3) return chests.get(chest)[what];
        if (what == 3) return worthOf(chest, state.month);
        int[] two = state.laying.get(chest);
        if (what == 4) return number(two);
        return two != null && may(state, chest, two) ? 1 : 0;
    }

    int feed(int letter) {
        if (letter < 0 || letter > 255) return BAD;
        if (tape.length() == 160) return FULL;
        tape.append((char) letter);
        return tape.length();
    }

    int text() {
        if (texts.size() == 6) return FULL;
        String s = tape.toString();
        tape.setLength(0);
        try {
            texts.add(new Parser(s).text());
            return texts.size() - 1;
        } catch (Fault f) {
            return -100 - f.place;
        }
    }

    int force(int text) {
        if (text < 0 || text >= texts.size()) return BAD;
        int old = state.rule;
        state.rule = text;
        return old;
    }

    int lay(int chest, int a, int b) {
        if (!isChest(chest)) return BAD;
        if (a != -1 && !two(a, b)) return BAD;
        int[] next = a == -1 ? null : new int[] {Math.min(a, b), Math.max(a, b)};
        return number(state.laying.set(chest, next));
    }

    int mayLay(int chest, int pair) {
        if (!isChest(chest) || pair < 0 || pair >= pairs(state.n).size()) return BAD;
        return may(state, chest, pairs(state.n).get(pair)) ? 1 : 0;
    }

    int lawful(int what) {
        if (what == 0) return !state.laying.contains(null) && breaches(state) == 0 && state.mostKeys() <= state.most ? 1 : 0;
        if (what == 1) return layings(state).size();
        if (what == 2) return state.mostKeys();
        return BAD;
    }

    private int moved(int[] row, List<int[]> pairs) {
        int k = 0;
        for (int c = 0; c < row.length; c++) {
            int[] old = state.laying.get(c), next = pairs.get(row[c]);
            if (old == null) continue;
            k += 2;
            for (int p : next) if (p == old[0] || p == old[1]) k--;
        }
        return k;
    }

    /** The best row and, behind it, how many keys or how much. */
    private int[] bestRow(int sort, List<int[]> rows) {
        List<int[]> pairs = pairs(state.n);
        int[] bands = pairs.stream().mapToInt(two -> bandOf(state, two)).toArray();
        int[] best = null;
        int bestValue = 0;
        for (int[] row : rows) {
            int value = sort == 0 ? moved(row, pairs) : Arrays.stream(row).map(pair -> bands[pair]).sum();
            if (best == null || (sort == 0 ? value < bestValue : value > bestValue)) {
                best = row;
                bestValue = value;
            }
        }
        int[] both = Arrays.copyOf(best, best.length + 1);
        both[best.length] = bestValue;
        return both;
    }

    int best(int sort, int chest) {
        if (sort < 0 || sort > 1 || chest != NONE && !isChest(chest)) return BAD;
        List<int[]> rows = layings(state);
        if (rows.isEmpty()) return STATE;
        int[] best = bestRow(sort, rows);
        return chest != NONE ? best[chest] : best[chests.size()];
    }

    int move() {
        List<int[]> rows = layings(state);
        if (rows.isEmpty()) return STATE;
        int[] best = bestRow(0, rows);
        for (int c = 0; c < chests.size(); c++) state.laying.set(c, pairs(state.n).get(best[c]));
        return best[chests.size()];
    }

    int quarrel(int what) {
        if (what != 0 && what != 1) return BAD;
        if (!layings(state).isEmpty()) return NONE;
        int[] best = null;
        int least = 0;
        for (int[] two : pairs(state.n)) {
            if (!state.speak(two[0], two[1])) continue;
            State other = state.twin();
            other.agree(two[0], two[1], 13);
            if (layings(other).isEmpty()) continue;
            int costs = bound(tell(state, 1, two, 0));
            if (best == null || costs < least) {
                best = two;
                least = costs;
            }
        }
        return best == null ? NONE : what == 0 ? number(best) : least;
    }

    int peace(int what) {
        if (what != 0 && what != 1) return BAD;
        int[] best = null;
        int most = 0;
        for (int[] two : pairs(state.n)) {
            if (state.speak(two[0], two[1])) continue;
            State other = state.twin();
            other.agree(two[0], two[1], 0);
            int harm = breaches(other);
            if (best == null || harm > most) {
                best = two;
                most = harm;
            }
        }
        return what == 0 ? number(best) : most;
    }

    int in(int month) {
        if (month < 0 || month > 12) return BAD;
        State other = state.twin();
        other.month = month;
        return breaches(other);
    }

    int first() {
        for (int m = state.month; m < 13; m++) if (in(m) > 0) return m;
        return NONE;
    }

    int worth(int what) {
        if (what != 0 && what != 1) return -100000;
        int sum = 0;
        for (int c = 0; c < chests.size(); c++) {
            int[] two = state.laying.get(c);
            if (two == null) continue;
            if (what == 0) sum += bound(tell(state, 2, two, c));
            else sum += (may(state, c, two) ? 1 : -1) * worthOf(c, state.month);
        }
        return sum;
    }

    int opened(int set) {
        if (set < 0 || set >> state.n != 0) return BAD;
        int bits = 0;
        for (int c = 0; c < chests.size(); c++) {
            int[] two = state.laying.get(c);
            if (two != null && state.far(two[0], two[1], set) != 9) bits |= 1 << c;
        }
        return bits;
    }

    int band(int set, int what) {
        if (set < 0 || set >> chests.size() != 0 || what < 0 || what > 2) return BAD;
        int best = NONE;
        int must = -1;
        for (int some = 0; some < 1 << state.n; some++) {
            if ((opened(some) & set) != set) continue;
            must &= some;
            if (best == NONE || Integer.bitCount(some) < Integer.bitCount(best)) best = some;
        }
        if (what == 2) return best == NONE ? 0 : must;
        return best == NONE || what == 0 ? best : Integer.bitCount(best);
    }

    private static int size(Object sheet) { return java.lang.reflect.Array.getLength(sheet); }
    private static int item(Object sheet, int i) { return java.lang.reflect.Array.getInt(sheet, i); }
    private static int sort(Object sheet) {
        return sheet instanceof byte[] ? 0 : sheet instanceof short[] ? 1 : 2;
    }

    int judge(int sheet) {
        if (sheet < 0 || sheet > 3) return BAD;
        Object s = sheets[sheet];
        if (s == null) return -11;
        if (size(s) % 2 == 1) return BAD;
        State other = state.twin();
        for (int i = 0; i < size(s); i += 2) {
            int c = item(s, i), p = item(s, i + 1);
            if (!isChest(c) || p < 0 || p >= pairs(state.n).size()) return i / 2;
            other.laying.set(c, pairs(state.n).get(p));
            if (other.mostKeys() > state.most) return i / 2;
        }
        return NONE;
    }

    int place(int sheet) {
        if (sheet < 0 || sheet > 3) return BAD;
        Object s = sheets[sheet];
        if (s == null) return -11;
        if (size(s) != chests.size()) return BAD;
        int[] row = new int[size(s)];
        for (int i = 0; i < row.length; i++) row[i] = item(s, i);
        List<int[]> rows = layings(state);
        for (int i = 0; i < rows.size(); i++) if (Arrays.equals(rows.get(i), row)) return i;
        return NONE;
    }

    int drawn(int seed) {
        State other = state.twin();
        int z = seed;
        for (int[] two : pairs(state.n)) {
            z = z * 1103515245 + 12345;
            other.agree(two[0], two[1], (z >>> 9) % 14);
        }
        return layings(other).size();
    }

    long chance(int seed, int many, int part) {
        if (many < 1 || many > 8 || part < 0 || part > 1) return NO;
        int above = 0;
        for (int i = 0; i < many; i++) if (drawn(seed + i) > 0) above++;
        int gcd = java.math.BigInteger.valueOf(above).gcd(java.math.BigInteger.valueOf(many)).intValue();
        return (part == 0 ? above : many) / gcd;
    }

    int image() {
        kept = state.twin();
        return state.n;
    }

    int back() {
        if (kept == null) return STATE;
        state = kept.twin();
        while (chests.size() > state.laying.size()) chests.remove(chests.size() - 1);
        return state.n;
    }

    int count(int what) {
        int speaking = 0;
        for (int[] two : pairs(state.n)) if (state.speak(two[0], two[1])) speaking++;
        int[] all = {state.n, chests.size(), state.month, state.most, texts.size(), tape.length(), state.rule, speaking};
        return what < 0 || what > 7 ? BAD : all[what];
    }

    int sheet(int sheet, int sort, int n) {
        if (sheet < 0 || sheet > 3 || sort < -1 || sort > 2) return BAD;
        if (sort != -1 && n > 40) return BAD;
        if (sort != -1 && n < 0) return -14;
        sheets[sheet] = sort == -1 ? null : sort == 0 ? new byte[n] : sort == 1 ? new short[n] : new int[n];
        return 1;
    }

    int cell(int sheet, int i, int v) {
        if (sheet < 0 || sheet > 3) return BAD;
        Object s = sheets[sheet];
        if (s == null) return -11;
        if (i < 0 || i >= size(s)) return -12;
        if (s instanceof byte[]) ((byte[]) s)[i] = (byte) v;
        else if (s instanceof short[]) ((short[]) s)[i] = (short) v;
        else ((int[]) s)[i] = v;
        return 1;
    }

    int copy(int sheet, int i, int other, int j, int n) {
        if (sheet < 0 || sheet > 3 || other < 0 || other > 3) return BAD;
        Object s = sheets[sheet], t = sheets[other];
        if (s == null || t == null) return -11;
        if (sort(s) != sort(t)) return -13;
        try {
            System.arraycopy(s, i, t, j, n);
        } catch (IndexOutOfBoundsException e) {
            return -12;
        }
        return n;
    }

    int speaks(int sheet, int sort, int from, int n) {
        if (sheet < 0 || sheet > 3 || sort < 0 || sort > 2 || n < 0 || n > 13) return BAD;
        Object s = sheets[sheet];
        if (s != null && sort(s) != sort) return -13;
        if (s == null) return -11;
        int became = 0;
        for (int k = 0; k < n; k++) {
            long at = (long) from + 3 * k;
            if (at < 0 || at + 2 >= size(s)) return -12;
            int i = (int) at;
            if (speak(item(s, i), item(s, i + 1), item(s, i + 2)) != BAD) became++;
        }
        return became;
    }

    int taken(int chest, int k) {
        if (k < 0 || k > 5) return BAD;
        if (!isChest(chest)) return -11;
        return CLASSES[k].isInstance(KINDS[chests.get(chest)[0]]) ? chests.get(chest)[1] : -13;
    }
}
