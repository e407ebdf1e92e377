import java.lang.management.ManagementFactory;

/** All calls of one run live in one room: what 512 of the dearest calls make stays far below its size. */
public final class RoomTest {
    private static final int CALLS = 512;
    /** The room has 7.3 million elements; this allows 1 million, of four bytes each. */
    private static final long ALLOWED = 4_000_000L;
    private static final com.sun.management.ThreadMXBean THREADS =
        (com.sun.management.ThreadMXBean) ManagementFactory.getThreadMXBean();

    private interface Call { void on(TwoKeys x, int i); }

    public static void main(String[] args) {
        within("a new object", (x, i) -> new TwoKeys());
        within("people", (x, i) -> x.people(2 + i % 5));
        within("speak", (x, i) -> x.speak(0, 1, i % 13));
        within("set", (x, i) -> x.set(0, 0, i % 13));
        within("text", (x, i) -> text(x));
        within("lawful", (x, i) -> x.lawful(1));
        within("best", (x, i) -> x.best(i % 2, -1));
        within("move", (x, i) -> x.move());
        within("quarrel", (x, i) -> { x.set(1, 0, 1); x.quarrel(0); });
        within("peace", (x, i) -> x.peace(0));
        within("first", (x, i) -> x.first());
        within("worth", (x, i) -> x.worth(i % 2));
        within("band", (x, i) -> x.band(15, i % 3));
        within("judge", (x, i) -> { x.sheet(0, i % 3, 40); x.judge(0); });
        within("place", (x, i) -> { x.sheet(0, i % 3, 4); x.cell(0, 0, 14); x.place(0); });
        within("drawn", (x, i) -> x.drawn(i));
        within("chance", (x, i) -> x.chance(i, 8, 0));
        within("image, back", (x, i) -> { x.image(); x.back(); });
        within("chest, back", (x, i) -> { x.chest(1, 1); x.back(); });
        within("speaks", (x, i) -> { x.sheet(1, 0, 39); x.speaks(1, 0, 0, 13); });
        Check.end();
    }

    private static void text(TwoKeys x) {
        for (int i = 0; i < 160; i++) {
            x.feed("may 1;costs 1;fears 1+".charAt(Math.min(i, 21)));
        }
        x.text();
    }

    private static TwoKeys full() {
        TwoKeys x = new TwoKeys();
        x.people(6);
        for (int kind = 0; kind < 4; kind++) {
            x.chest(kind, 505);
        }
        x.set(1, 0, 3);
        x.move();
        return x;
    }

    private static void within(String call, Call c) {
        TwoKeys x = full();
        c.on(full(), 0);
        long thread = Thread.currentThread().getId();
        long before = THREADS.getThreadAllocatedBytes(thread);
        for (int i = 0; i < CALLS; i++) {
            c.on(x, i);
        }
        long made = THREADS.getThreadAllocatedBytes(thread) - before;
        Check.holds(CALLS + " of " + call + " made " + made + " bytes", made <= ALLOWED);
    }
}
