import java.lang.management.ManagementFactory;

/** All calls of a run live in one room: only a LAW and a SUIT that comes may take any of it. */
public final class RoomTest {
    private static final Check CHECK = new Check();
    private static final int CALLS = 512;
    // Each object takes 16 bytes at least, so that one a call would take more; to measure takes some, too.
    private static final long NOTHING = CALLS * 12;
    // A hundredth of the room's 7.3 million fields and elements, if each took four bytes.
    private static final long A_HUNDREDTH = 290_000;
    private static final String[] REFUSED = {"", "0", "0>1", "0>1:", "0>1:1,", "0>1:1,2;3+f", "0>1:1;3+=mw@1/8", "0>0:1=mw@1/0"};
    private static final int SUITS = 40;

    public static void main(String[] args) {
        measure(false);
        measure(true);
        CHECK.end("RoomTest");
    }

    private static long allocated() {
        return ((com.sun.management.ThreadMXBean) ManagementFactory.getThreadMXBean())
            .getThreadAllocatedBytes(Thread.currentThread().getId());
    }

    /** Not judged at first: a first run makes what the machine itself wants. */
    private static void measure(boolean judged) {
        for (int which = 0; which < 31; which++) {
            AlreadyJudged x = fullCourt();
            long before = allocated();
            for (int i = 0; i < CALLS; i++) {
                call(x, which, i);
            }
            long made = allocated() - before;
            CHECK.that("call " + which + " makes " + made + " bytes", !judged || made < (which == 0 ? A_HUNDREDTH : NOTHING));
        }
        refusedTexts(judged);
        suitsThatCome(judged);
        long before = allocated();
        new AlreadyJudged();
        long made = allocated() - before;
        CHECK.that("a new object takes " + made + " bytes", !judged || made < 16_000);
    }

    private static void refusedTexts(boolean judged) {
        AlreadyJudged x = new AlreadyJudged();
        x.claim(1, 0, 0);
        int refused = 0;
        long before = allocated();
        for (int i = 0; i < CALLS; i++) {
            refused += Check.suit(x, REFUSED[i % REFUSED.length]) <= -100 ? 1 : 0;
        }
        long made = allocated() - before;
        CHECK.due("texts that are refused", refused, CALLS);
        CHECK.that("refused texts make " + made + " bytes", !judged || made < NOTHING);
    }

    private static void suitsThatCome(boolean judged) {
        AlreadyJudged x = new AlreadyJudged();
        x.claim(1, 0, 0);
        long before = allocated();
        for (int i = 0; i < SUITS; i++) {
            Check.suit(x, "0>1:0;3+fn=mw@50/0");
        }
        long made = allocated() - before;
        CHECK.due("all SUITS came", x.count(2), SUITS);
        CHECK.that("all SUITS take " + made + " bytes", !judged || made < SUITS * 300);
    }

    private static AlreadyJudged fullCourt() {
        AlreadyJudged x = new AlreadyJudged();
        for (int i = 0; i < 32; i++) {
            x.claim(1, i % 16, i / 16);
        }
        for (int i = 0; i < 40; i++) {
            x.shoe(i % 20, (i + 1 + i / 20) % 20, 1 + i % 5, i);
        }
        Check.law(x, 20, "1");
        for (int i = 0; i < 39; i++) {
            Check.suit(x, i % 20 + ">" + (i + 1) % 20 + ":1,2;3" + (i % 2 == 0 ? "+" : "-") + "fn=mw@50/" + i % 8);
        }
        for (int i = 3; i < 8; i++) {
            x.wish(i, 1);
        }
        return x;
    }

    private static void call(AlreadyJudged x, int which, int i) {
        switch (which) {
            case 0: Check.law(x, 0, "a&k=1|a&k=6|a&k=3;c?1;0"); break;
            case 1: x.suit(); break;
            case 2: x.left(900, -1); break;
            case 3: x.hangs(1, -1, 900); break;
            case 4: x.order(900, 1); break;
            case 5: x.opens(i % 39, 900); break;
            case 6: x.joined(0, 0xff, 1); break;
            case 7: x.ring(1); break;
            case 8: x.need(3, 1, 900); break;
            case 9: x.clash(-1); break;
            case 10: x.row(i % 6, i % 5, 60); break;
            case 11: x.won(0, i % 2); break;
            case 12: x.shoe(0, 1, 1, 0); break;
            case 13: x.shoes(i % 6, 0, 15); break;
            case 14: x.moveShoe(0, i); break;
            case 15: x.bound(i % 20, 900, 0, 1); break;
            case 16: x.claim(1, 0, 0); break;
            case 17: x.feed(4, i); break;
            case 18: x.ofSuit(i % 40, i % 82); break;
            case 19: x.undone(i % 39, 900); break;
            case 20: x.law(i % 40); break;
            case 21: x.counts(i % 39, 900, i % 8); break;
            case 22: x.met(i % 32, -1, 900); break;
            case 23: x.point(3, 1, 900, 1); break;
            case 24: x.lost(i % 39, -1); break;
            case 25: x.wish(i % 32, 1); break;
            case 26: x.act(i % 39, i % 4, i); break;
            case 27: x.shift(0, 0, 0, 0, 0); break;
            case 28: x.keep(i % 6, i % 39); break;
            case 29: x.taken(i % 6, i % 7); break;
            default: x.undo(); x.redo(); break;
        }
    }
}
