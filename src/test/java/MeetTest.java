import java.util.ArrayList;
import java.util.Collections;
import java.util.HashMap;
import java.util.List;
import java.util.Map;
import java.util.Random;

/**
 * What a call changes is seen by every later call whose words speak of it, and by no other.
 *
 * Towns are drawn; twins of them are asked the same, the one behind a call more than the other, till
 * its 512th call. For each two calls the rows below say, by the document's words, of what the one
 * changes something and of what the answer of the other tells: answers must differ in some town if
 * there is such a thing, and in none if there is not. The same behind back(): of what the image keeps
 * nothing is seen that came since, and all that was there when it was made.
 */
public final class MeetTest {
    private static final int MOST_CALLS = 512;
    private static final int TOWNS = Integer.getInteger("towns", 960);
    private static final long FIRST_SEED = Long.getLong("seed", 20261118L);
    private static final boolean TELLS = Boolean.getBoolean("tells");

    /**
     * Of what words speak: p PEOPLE, w who SPEAKS, m THE MONTH, x MOST, r THE RULE, l THE LAYING, c CHESTS,
     * h how they are held (a new one is held by nobody, so it is not spoken of), n NUMBER, g GOLD,
     * b bytes of THE TAPE, t TEXTS, i THE IMAGE, q PEOPLE in it, s sorts and sizes of SHEETS, v their items.
     */
    private record Row(String name, String things, Draw draw) {
        boolean meets(Row other, String within) {
            return things.chars().anyMatch(c -> other.things.indexOf(c) >= 0 && within.indexOf(c) >= 0);
        }
    }

    private interface Draw { FaceCall of(DrawnRun run); }

    private static Row row(String name, String things, Draw draw) {
        return new Row(name, things, draw);
    }

    /** What is changed by a call. */
    private static final List<Row> CHANGES = List.of(
        row("people", "pqwlh", DrawnRun::people),
        row("speak", "w", DrawnRun::speak),
        row("chest", "c", DrawnRun::chest),
        row("set month", "m", DrawnRun::month),
        row("set most", "x", DrawnRun::most),
        row("set number", "n", DrawnRun::number),
        row("set gold", "g", DrawnRun::gold),
        row("feed", "b", DrawnRun::letter),
        row("text", "bt", DrawnRun::text),
        row("force", "r", DrawnRun::force),
        row("lay", "lh", DrawnRun::lay),
        row("move", "lh", DrawnRun::move),
        row("image", "i", DrawnRun::image),
        row("back", "pqwmxrlhc", DrawnRun::back),
        row("sheet", "sv", DrawnRun::sheet),
        row("cell", "v", DrawnRun::cell),
        row("copy", "v", DrawnRun::copy),
        row("speaks", "w", DrawnRun::speaks));

    /** A CHEST may be LAID on a PAIR by these: FITS and may, with its keys, month, far. */
    private static final String MAY = "pwmrln";
    private static final String LAYINGS = MAY + "xc";
    private static final String HELD_SO = "wmrnh";

    /** Of what an answer tells. */
    private static final List<Row> QUESTIONS = List.of(
        row("told 0", "pw", run -> new FaceCall("told", run.somebody(), run.somebody(), 0)),
        row("told 1", "pwm", run -> new FaceCall("told", run.somebody(), run.somebody(), 1)),
        row("told 2", "pwm", run -> new FaceCall("told", run.somebody(), run.somebody(), 2)),
        row("chestTold 0", "c", run -> new FaceCall("chestTold", run.someChest(), 0)),
        row("chestTold 1", "cn", run -> new FaceCall("chestTold", run.someChest(), 1)),
        row("chestTold 2", "cg", run -> new FaceCall("chestTold", run.someChest(), 2)),
        row("chestTold 3", "cngm", run -> new FaceCall("chestTold", run.someChest(), 3)),
        row("chestTold 4", "cl", run -> new FaceCall("chestTold", run.someChest(), 4)),
        row("chestTold 5", "c" + HELD_SO, run -> new FaceCall("chestTold", run.someChest(), 5)),
        row("mayLay", "c" + MAY, run -> new FaceCall("mayLay", run.someChest(), run.pair())),
        row("lawful 0", "cx" + HELD_SO, run -> new FaceCall("lawful", 0)),
        row("lawful 1", LAYINGS, run -> new FaceCall("lawful", 1)),
        row("lawful 2", "h", run -> new FaceCall("lawful", 2)),
        row("best 0, keys", LAYINGS, run -> new FaceCall("best", 0, -1)),
        row("best 0, pair", LAYINGS, run -> new FaceCall("best", 0, run.someChest())),
        row("best 1, bands", LAYINGS, run -> new FaceCall("best", 1, -1)),
        row("best 1, pair", LAYINGS, run -> new FaceCall("best", 1, run.someChest())),
        row("quarrel 0", LAYINGS, run -> new FaceCall("quarrel", 0)),
        row("quarrel 1", LAYINGS, run -> new FaceCall("quarrel", 1)),
        row("peace 0", HELD_SO, run -> new FaceCall("peace", 0)),
        row("peace 1", HELD_SO, run -> new FaceCall("peace", 1)),
        row("in", "wrnh", run -> new FaceCall("in", run.upTo(12))),
        row("first", HELD_SO, run -> new FaceCall("first")),
        row("worth 0", "wmrh", run -> new FaceCall("worth", 0)),
        row("worth 1", "g" + HELD_SO, run -> new FaceCall("worth", 1)),
        row("opened", "pwmh", run -> new FaceCall("opened", run.peopleSet())),
        row("band 0", "wmhc", run -> new FaceCall("band", run.chestSet(), 0)),
        row("band 1", "wmhc", run -> new FaceCall("band", run.chestSet(), 1)),
        row("band 2", "wmhc", run -> new FaceCall("band", run.chestSet(), 2)),
        row("judge", "svhxpc", run -> new FaceCall("judge", run.upTo(4) % 4)),
        row("place", "sv" + LAYINGS, run -> new FaceCall("place", 1 - run.upTo(5) / 5)),
        row("drawn", "pmrlnxc", run -> new FaceCall("drawn", run.upTo(1 << 20))),
        row("chance 0", "pmrlnxc", run -> new FaceCall("chance", run.upTo(1 << 20), 1 + run.upTo(7), 0)),
        row("chance 1", "pmrlnxc", run -> new FaceCall("chance", run.upTo(1 << 20), 1 + run.upTo(7), 1)),
        row("count 0", "p", run -> new FaceCall("count", 0)),
        row("count 1", "c", run -> new FaceCall("count", 1)),
        row("count 2", "m", run -> new FaceCall("count", 2)),
        row("count 3", "x", run -> new FaceCall("count", 3)),
        row("count 4", "t", run -> new FaceCall("count", 4)),
        row("count 5", "b", run -> new FaceCall("count", 5)),
        row("count 6", "r", run -> new FaceCall("count", 6)),
        row("count 7", "wm", run -> new FaceCall("count", 7)),
        row("taken", "cn", run -> new FaceCall("taken", run.someChest(), run.upTo(5))));

    private static final Row MOVE = row("move's answer", LAYINGS, DrawnRun::move);

    /** Of what the answer of a call tells that changes something; one of them is a run's last call. */
    private static final List<Row> LAST = List.of(
        row("people's answer", "p", DrawnRun::people),
        row("speak's answer", "pw", DrawnRun::speak),
        row("chest's answer", "c", DrawnRun::chest),
        row("month's answer", "m", DrawnRun::month),
        row("most's answer", "x", DrawnRun::most),
        row("number's answer", "cn", DrawnRun::number),
        row("gold's answer", "cg", DrawnRun::gold),
        row("feed's answer", "b", DrawnRun::letter),
        row("text's answer", "bt", DrawnRun::text),
        row("force's answer", "rt", DrawnRun::force),
        row("lay's answer", "cpl", DrawnRun::lay),
        MOVE,
        row("image's answer", "p", DrawnRun::image),
        row("back's answer", "iq", DrawnRun::back),
        row("sheet's answer", "", DrawnRun::sheet),
        row("cell's answer", "s", DrawnRun::cell),
        row("copy's answer", "s", DrawnRun::copy),
        row("speaks' answer", "svp", DrawnRun::speaks));

    private static final String ALL = "pwmxrlchngbtisv";
    private static final String NOT_IN_AN_IMAGE = "ngbtsv";
    private static final String OF_A_NEW_IMAGE = "pqwmxrlchngbtsv";
    private static final FaceCall IMAGE = new FaceCall("image");
    private static final FaceCall BACK = new FaceCall("back");

    private interface After { List<FaceCall> of(DrawnRun run); }

    /** What both twins are called ahead of the change and behind it, and of what a change is seen then. */
    private record Way(String name, List<FaceCall> ahead, After behind, String seen) { }

    private static final List<Way> WAYS = List.of(
        new Way("at once", List.of(), run -> List.of(), ALL),
        new Way("laid back", List.of(IMAGE), run -> List.of(BACK), NOT_IN_AN_IMAGE),
        new Way("kept by an image", List.of(), MeetTest::lifeOfAnImage, OF_A_NEW_IMAGE));

    /** An image, of all that it keeps something is changed, and all is laid back. */
    private static List<FaceCall> lifeOfAnImage(DrawnRun run) {
        return List.of(IMAGE, run.chest(), run.month(), run.most(), new FaceCall("force", 0), run.lay(), run.move(),
            run.speak(), run.people(), run.chest(), run.speak(), run.lay(), BACK);
    }

    private final Way way;
    private final Map<String, Integer> times = new HashMap<>();

    private MeetTest(Way way) {
        this.way = way;
    }

    public static void main(String[] args) {
        for (Way way : WAYS) {
            MeetTest test = new MeetTest(way);
            for (int i = 0; i < CHANGES.size(); i++) {
                for (int town = 0; town < TOWNS; town++) {
                    test.meet(CHANGES.get(i), new Random(FIRST_SEED + 100_000L * i + town), town);
                }
            }
            test.judge(QUESTIONS);
            test.judge(LAST);
        }
        for (int i = 0; i < TOWNS; i++) sideBySide(new Random(FIRST_SEED + i));
        Check.end();
    }

    private void meet(Row change, Random random, int town) {
        DrawnRun run = DrawnRun.town(random, 400);
        FaceCall changing = change.draw().of(run);
        List<FaceCall> behind = way.behind().of(run);
        List<Row> asked = rowsAsked(random, town);
        List<FaceCall> questions = drawn(asked, run);
        List<FaceCall> ahead = new ArrayList<>(run.calls);
        ahead.addAll(way.ahead());
        while (ahead.size() + 1 + behind.size() + questions.size() < MOST_CALLS) ahead.add(0, new FaceCall("count", 0));
        Check.due("calls", ahead.size() + 1 + behind.size() + questions.size(), MOST_CALLS);
        TwoKeys x = new TwoKeys();
        TwoKeys twin = new TwoKeys();
        callAll(ahead, x);
        callAll(ahead, twin);
        changing.on(x);
        callAll(behind, x);
        callAll(behind, twin);
        long[] answers = callAll(questions, x);
        long[] twins = callAll(questions, twin);
        for (int i = 0; i < answers.length; i++) {
            if (answers[i] == twins[i]) continue;
            times.merge(change.name() + " > " + asked.get(i).name(), 1, Integer::sum);
            Check.holds(way.name() + ": " + changing + " is not spoken of by " + questions.get(i),
                asked.get(i).meets(change, way.seen()));
        }
    }

    /** All questions in an order of their own, and a last one. */
    private static List<Row> rowsAsked(Random random, int town) {
        List<Row> asked = new ArrayList<>(QUESTIONS);
        Collections.shuffle(asked, random);
        asked.add(lastOf(town));
        return asked;
    }

    /** A move seldom answers something else, so it comes more often. */
    private static Row lastOf(int town) {
        int i = town % (LAST.size() + 6);
        return i < LAST.size() ? LAST.get(i) : MOVE;
    }

    private static List<FaceCall> drawn(List<Row> rows, DrawnRun run) {
        List<FaceCall> calls = new ArrayList<>();
        for (Row row : rows) calls.add(row.draw().of(run));
        return calls;
    }

    private static long[] callAll(List<FaceCall> calls, TwoKeys x) {
        return calls.stream().mapToLong(call -> call.on(x)).toArray();
    }

    private void judge(List<Row> questions) {
        for (Row change : CHANGES) {
            for (Row question : questions) {
                int seen = times.getOrDefault(change.name() + " > " + question.name(), 0);
                boolean isDue = question.meets(change, way.seen());
                if (TELLS && isDue) System.out.println(seen + " " + way.name() + ": " + change.name() + " > " + question.name());
                Check.holds(way.name() + ": " + change.name() + " is seen by " + question.name(), seen > 0 == isDue);
            }
        }
    }

    /** Two objects whose calls come by turns answer as each does alone, and so they do a second time. */
    private static void sideBySide(Random random) {
        List<FaceCall> one = whole(random);
        List<FaceCall> other = whole(random);
        long[] ofOne = callAll(one, new TwoKeys());
        long[] ofOther = callAll(other, new TwoKeys());
        TwoKeys x = new TwoKeys();
        TwoKeys y = new TwoKeys();
        for (int i = 0; i < MOST_CALLS; i++) {
            Check.due("side by side: " + one.get(i), one.get(i).on(x), ofOne[i]);
            Check.due("side by side: " + other.get(i), other.get(i).on(y), ofOther[i]);
        }
    }

    /** A town's calls, then questions and changes by turns, 512 of them. */
    private static List<FaceCall> whole(Random random) {
        DrawnRun run = DrawnRun.town(random, 400);
        List<FaceCall> calls = new ArrayList<>(run.calls);
        for (int i = 0; calls.size() < MOST_CALLS; i++) {
            List<Row> rows = i % 3 == 0 ? CHANGES : QUESTIONS;
            calls.add(rows.get(random.nextInt(rows.size())).draw().of(run));
        }
        return calls;
    }
}
