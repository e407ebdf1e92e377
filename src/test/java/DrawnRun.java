import java.util.ArrayList;
import java.util.List;
import java.util.Random;

/** A run of calls that is drawn so that something stands everywhere: it knows how many there are of what. */
final class DrawnRun {
    private static final String[] MAYS = {
        "1", "keys<3", "not keys=2", "far-1", "month<6", "one+chest<4", "month=3 or keys<2", "far<9 or not keys", "0"};
    private static final String[] COSTS = {"1+far", "keys*9+one", "month+other", "50-keys*5-month"};
    private static final String[] FEARS = {"9-far", "keys*5+far", "month*4+chest", "one+other*3"};
    private static final String[] TAPES = {"", "may 1;costs 1;fears 1", "may 1;costs 1;fears 1;", "may (("};
    private static final int SHEETS = 4;

    final List<FaceCall> calls = new ArrayList<>();
    private final Random random;
    private boolean isTown = false;
    private int people = 5;
    private int chests = 0;
    private int texts = 1;
    private int keptPeople = 0;
    private int keptChests = 0;
    /** Sorts and sizes of the sheets; -1: missing. */
    private final int[] sorts = {-1, -1, -1, -1};
    private final int[] sizes = new int[SHEETS];

    private DrawnRun(Random random) {
        this.random = random;
    }

    /** The calls of a town that has lived, as many as told (250 at least, so that all has room). */
    static DrawnRun town(Random random, int size) {
        DrawnRun run = new DrawnRun(random);
        for (int i = random.nextInt(4); i > 0; i--) run.readText();
        run.settle();
        if (random.nextInt(8) > 0) {
            run.add(run.image());
            if (random.nextInt(2) == 0) run.settle();
        }
        run.feed(run.one(TAPES));
        while (run.calls.size() < size) run.live();
        run.isTown = true;
        return run;
    }

    private void readText() {
        feed("may " + one(MAYS) + ";costs " + one(COSTS) + ";fears " + one(FEARS) + ";");
        add(text());
        texts++;
        add(new FaceCall("force", texts - 1));
    }

    private void feed(String s) {
        for (int i = 0; i < s.length(); i++) add(new FaceCall("feed", s.charAt(i)));
    }

    private void settle() {
        add(people());
        for (int i = random.nextInt(4); i >= 0 && chests < 4; i--) add(chest());
        boolean isTalkative = random.nextInt(3) == 0;
        for (int i = isTalkative ? 20 : upTo(6); i > 0; i--) {
            add(new FaceCall("speak", person(), person(), upTo(isTalkative ? 1 : 13)));
        }
        add(month());
        add(most());
        for (int i = 0; i < chests; i++) add(new FaceCall("lay", i, person(), person()));
        writeSheets();
    }

    /** Sheet 0 for judge, 1 for place, 2 for speaks, 3 for copies. */
    private void writeSheets() {
        boolean isAlike = random.nextInt(2) == 0;
        int sort = upTo(2);
        int rows = upTo(3);
        add(new FaceCall("sheet", 0, isAlike ? sort : upTo(2), 2 * rows));
        for (int i = 0; i < rows; i++) {
            add(new FaceCall("cell", 0, 2 * i, Math.max(0, upTo(chests) - upTo(1))));
            add(new FaceCall("cell", 0, 2 * i + 1, pair()));
        }
        add(new FaceCall("sheet", 1, isAlike ? sort : upTo(2), chests));
        for (int i = 0; i < chests; i++) add(new FaceCall("cell", 1, i, pair()));
        add(new FaceCall("sheet", 2, sort, 6));
        for (int i = 0; i < 6; i++) add(new FaceCall("cell", 2, i, i % 3 == 2 ? upTo(13) : person()));
        add(new FaceCall("sheet", 3, upTo(3) - 1, 8));
    }

    /** Calls that leave the town as it is on the whole. */
    private void live() {
        switch (random.nextInt(10)) {
            case 0: add(speak()); break;
            case 1: add(new FaceCall("lay", someChest(), person(), person())); break;
            case 2: add(month()); break;
            case 3: add(most()); break;
            case 4: add(number()); break;
            case 5: add(gold()); break;
            case 6: add(new FaceCall("cell", 3, upTo(7), upTo(9))); break;
            case 7: add(new FaceCall("force", random.nextInt(texts))); break;
            case 8: add(new FaceCall("told", person(), person(), upTo(2))); break;
            default: add(new FaceCall("count", upTo(7))); break;
        }
    }

    /** The call stands in the run; what it changes is known to those that are drawn behind it. */
    private void add(FaceCall call) {
        calls.add(call);
        int[] with = call.args();
        switch (call.name()) {
            case "people": people = with[0]; break;
            case "chest": chests = Math.min(chests + 1, 4); break;
            case "image": keptPeople = people; keptChests = chests; break;
            case "back": people = keptPeople; chests = keptChests; break;
            case "sheet": sorts[with[0]] = with[1]; sizes[with[0]] = with[1] < 0 ? 0 : with[2]; break;
            default: break;
        }
    }

    int upTo(int most) {
        return random.nextInt(most + 1);
    }

    private String one(String[] of) {
        return of[random.nextInt(of.length)];
    }

    int person() {
        return random.nextInt(people);
    }

    /** Behind the town mostly the first two, so that what is called and what is asked speak of the same. */
    private int oneOf(int many) {
        return !isTown || random.nextInt(5) == 0 ? random.nextInt(many) : Math.min(random.nextInt(2), many - 1);
    }

    /** Sometimes one that is not there, but could be. */
    int somebody() {
        return random.nextInt(5) == 0 ? upTo(5) : oneOf(people);
    }

    int pair() {
        return random.nextInt(people * (people - 1) / 2);
    }

    /** Sometimes one that is not there, but could be. */
    int someChest() {
        return random.nextInt(4) == 0 ? Math.min(chests, 3) : oneOf(Math.max(1, chests));
    }

    int peopleSet() {
        return random.nextInt(4) == 0 ? upTo(63) : random.nextInt(1 << people);
    }

    int chestSet() {
        return random.nextInt(4) == 0 ? upTo(15) : random.nextInt(1 << chests);
    }

    /** Mostly the one for speaks, of which few rows become so in every town. */
    private int someSheet() {
        return random.nextInt(5) < 2 ? upTo(SHEETS - 1) : 2;
    }

    // the calls that change something, if what they are drawn for is there

    FaceCall people() {
        return new FaceCall("people", 2 + upTo(4));
    }

    FaceCall speak() {
        return new FaceCall("speak", somebody(), somebody(), upTo(13));
    }

    FaceCall chest() {
        return new FaceCall("chest", upTo(5), upTo(999));
    }

    FaceCall month() {
        return new FaceCall("set", 0, upTo(9), upTo(12));
    }

    FaceCall most() {
        return new FaceCall("set", 1, upTo(9), 1 + upTo(random.nextInt(3) == 0 ? 8 : 3));
    }

    FaceCall number() {
        return new FaceCall("set", 2, someChest(), upTo(9));
    }

    FaceCall gold() {
        return new FaceCall("set", 3, someChest(), upTo(99));
    }

    FaceCall letter() {
        return new FaceCall("feed", random.nextInt(2) == 0 ? ';' : upTo(255));
    }

    FaceCall text() {
        return new FaceCall("text");
    }

    FaceCall force() {
        return new FaceCall("force", upTo(texts));
    }

    FaceCall lay() {
        return new FaceCall("lay", someChest(), random.nextInt(5) == 0 ? -1 : somebody(), somebody());
    }

    FaceCall move() {
        return new FaceCall("move");
    }

    FaceCall image() {
        return new FaceCall("image");
    }

    FaceCall back() {
        return new FaceCall("back");
    }

    FaceCall sheet() {
        return new FaceCall("sheet", upTo(SHEETS - 1), upTo(3) - 1, upTo(8));
    }

    FaceCall cell() {
        int sheet = someSheet();
        return new FaceCall("cell", sheet, upTo(Math.max(0, sizes[sheet] - 1)), upTo(9));
    }

    FaceCall copy() {
        int from = upTo(SHEETS - 1);
        int to = someSheet();
        for (int i = 0; i < SHEETS && sorts[to] != sorts[from]; i++) to = (to + 1) % SHEETS;
        return new FaceCall("copy", from, upTo(2), to, upTo(2), upTo(4));
    }

    FaceCall speaks() {
        int sheet = someSheet();
        return new FaceCall("speaks", sheet, Math.max(0, sorts[sheet]), 0, 1 + upTo(1));
    }
}
