import java.lang.management.ManagementFactory;

/** All calls of a run live in one room: what the dearest calls make must stay far below it. */
public final class RoomTest {
    private static final Check CHECK = new Check();
    private static final int CALLS = 512;
    // A tenth of the room that a run has, if every element took eight bytes.
    private static final long MOST_BYTES = 5_000_000;

    public static void main(String[] args) {
        measure(false);
        measure(true);
        CHECK.end("RoomTest");
    }

    private static long allocated() {
        return ((com.sun.management.ThreadMXBean) ManagementFactory.getThreadMXBean())
            .getThreadAllocatedBytes(Thread.currentThread().getId());
    }

    private static void measure(boolean judged) {
        for (int which = 0; which < 12; which++) {
            AlreadyJudged x = fullCourt();
            long before = allocated();
            for (int i = 0; i < CALLS; i++) {
                call(x, which, i);
            }
            long made = allocated() - before;
            CHECK.that("call " + which + " makes " + made + " bytes", !judged || made < MOST_BYTES);
        }
        long before = allocated();
        new AlreadyJudged();
        CHECK.that("a new object", !judged || allocated() - before < 100_000);
    }

    private static AlreadyJudged fullCourt() {
        AlreadyJudged x = new AlreadyJudged();
        for (int i = 0; i < 32; i++) {
            x.claim(1, i % 16, i / 16);
        }
        for (int i = 0; i < 40; i++) {
            x.shoe(i % 20, (i + 1 + i / 20) % 20, 1 + i % 5, i);
        }
        Check.law(x, 20, "1");
        for (int i = 0; i < 39; i++) {
            Check.suit(x, i % 20 + ">" + (i + 1) % 20 + ":1,2;3" + (i % 2 == 0 ? "+" : "-") + "fn=mw@50/" + i % 8);
        }
        for (int i = 3; i < 8; i++) {
            x.wish(i, 1);
        }
        return x;
    }

    private static void call(AlreadyJudged x, int which, int i) {
        switch (which) {
            case 0: x.suit(); break;
            case 1: Check.law(x, 0, "a&k=1|a&k=6|a&k=3;c?1;0"); break;
            case 2: x.left(900, -1); break;
            case 3: x.hangs(1, -1, 900); break;
            case 4: x.order(900, 1); break;
            case 5: x.opens(i % 39, 900); break;
            case 6: x.joined(0, 0xff, 1); break;
            case 7: x.ring(1); break;
            case 8: x.need(3, 1, 900); break;
            case 9: x.clash(-1); break;
            case 10: x.row(i % 6, i % 5, 60); break;
            default: x.won(0, i % 2); break;
        }
    }
}
