/** Promises 31 to 39: acts of ENDINGS and their TRACE, PLACES, ROWS, how many there are. */
public final class ActsPlacesTest {
    private static final Check CHECK = new Check();
    private static final int[] SIZES = {8, 16, 32, 64};

    public static void main(String[] args) {
        acts();
        traces();
        keepAndTaken();
        rows();
        elements();
        shift();
        count();
        CHECK.end("ActsPlacesTest");
    }

    /** Seven SUITS of the KINDS 1 to 6 (number 5 undone), behind one more, so that number and KIND are alike. */
    private static AlreadyJudged ofAllKinds() {
        AlreadyJudged x = Check.withClaims(3);
        String[] endings = {"m", "m", "f", "a", "d", "m", "p1"};
        for (String ending : endings) {
            Check.suit(x, "0>1:0,1,2=" + ending + "w@50/0");
        }
        x.undone(5, 60);
        return x;
    }

    private static void acts() {
        AlreadyJudged x = ofAllKinds();
        int v = 100;
        for (int n = 1; n <= 6; n++) {
            int closes = v + n;
            int binds = v ^ n;
            int binds1 = 1 ^ n;
            if (n == 3 || n == 4) {
                closes = v + n - 1;
            } else if (n == 5) {
                closes = (v + 1 + n) * 2;
            } else if (n == 6) {
                closes = v + n + 3;
            }
            int settles = closes * 2;
            if (n == 1) {
                settles += 3;
            } else if (n == 4) {
                settles = -settles;
            } else if (n == 6) {
                settles = settles + 3 - (2 ^ n);
            }
            if (n == 2 || n == 5) {
                binds *= 3;
                binds1 *= 3;
            }
            int tells = settles - binds1;
            CHECK.due("31: closes of kind " + n, x.act(n, 0, v), closes);
            CHECK.due("31: settles of kind " + n, x.act(n, 1, v), settles);
            CHECK.due("31: binds of kind " + n, x.act(n, 2, v), binds);
            CHECK.due("31: tells of kind " + n, x.act(n, 3, v), n == 4 ? tells ^ 5 : tells);
        }
        CHECK.due("31: an int that wraps", x.act(1, 0, Integer.MAX_VALUE), Integer.MIN_VALUE);
        CHECK.due("31: wraps by settles", x.act(0, 1, 1 << 30), (1 << 31) + 3);
        CHECK.due("31: no such ending", x.act(7, 0, 5), 0);
        CHECK.due("31: no trace then", x.count(6), 0);
        CHECK.due("32: none", x.trace(0), -1);
        x.act(0, 0, 5);
        CHECK.due("31: no such act", x.act(0, 4, 5), 0);
        CHECK.due("31: no trace of it", x.trace(0), -1);
        x.act(0, 0, 5);
        CHECK.due("31: act below", x.act(0, -1, 5), 0);
        CHECK.due("31: no bodies", x.count(6), 0);
        CHECK.due("31: ending below", x.act(-1, 0, 5), 0);
    }

    private static void traced(AlreadyJudged x, int suit, int act, int... bodies) {
        x.act(suit, act, 9);
        CHECK.due("39: bodies of act " + act + " of " + suit, x.count(6), bodies.length);
        for (int i = 0; i < bodies.length; i++) {
            CHECK.due("32: act " + act + " of " + suit + ", body " + i, x.trace(i), bodies[i]);
        }
        CHECK.due("32: none behind", x.trace(bodies.length), -1);
        CHECK.due("32: none below", x.trace(-1), -1);
    }

    private static void traces() {
        AlreadyJudged x = ofAllKinds();
        traced(x, 1, 0, 1);
        traced(x, 1, 1, 20, 10, 1);
        traced(x, 1, 2, 11);
        traced(x, 1, 3, 2, 20, 10, 1, 11);
        traced(x, 2, 2, 30, 11);
        traced(x, 2, 3, 2, 10, 1, 30, 11);
        traced(x, 3, 0, 40, 1);
        traced(x, 3, 3, 2, 10, 40, 1, 11);
        traced(x, 4, 0, 40, 1);
        traced(x, 4, 1, 50, 10, 40, 1);
        traced(x, 4, 3, 51, 2, 50, 10, 40, 1, 11);
        traced(x, 5, 0, 60, 1);
        traced(x, 5, 3, 2, 10, 60, 1, 30, 11);
        traced(x, 6, 0, 70, 1);
        traced(x, 6, 1, 71, 20, 10, 70, 1, 11);
        traced(x, 6, 3, 2, 71, 20, 10, 70, 1, 11, 11);
        x.undo();
        traced(x, 5, 3, 2, 20, 10, 1, 11);
        CHECK.due("32: far above", x.trace(Integer.MAX_VALUE), -1);
    }

    private static void keepAndTaken() {
        AlreadyJudged x = ofAllKinds();
        int[] above = {0, 0, 0, 0, 3, 2, 1};
        for (int n = 1; n <= 6; n++) {
            CHECK.due("33: kept", x.keep(5, n), 1);
            for (int k = 0; k <= 6; k++) {
                boolean under = k == n || k == 0 || k == above[n];
                CHECK.due("38: " + n + " for " + k, x.taken(5, k), under ? n : -12);
            }
            CHECK.due("38: k below", x.taken(5, -1), -1);
            CHECK.due("38: k above", x.taken(5, 7), -1);
        }
        CHECK.due("33: nothing", x.keep(5, -1), 1);
        CHECK.due("38: nothing", x.taken(5, 0), -11);
        CHECK.due("38: bad ahead of that", x.taken(5, 7), -1);
        CHECK.due("38: place below", x.taken(-1, 0), -1);
        CHECK.due("38: place above", x.taken(6, 0), -1);
        x.row(5, 2, 3);
        CHECK.due("38: a row", x.taken(5, 0), -12);
        CHECK.due("33: no such suit", x.keep(5, 7), -1);
        CHECK.due("33: suit below", x.keep(5, -2), -1);
        CHECK.due("33: place below", x.keep(-1, 0), -1);
        CHECK.due("33: place above", x.keep(6, 0), -1);
        CHECK.due("33: the row stays", x.element(5, 2), 0);
        x.keep(5, 6);
        x.undone(6, 50);
        CHECK.due("38: as it is now", x.taken(5, 6), -12);
        CHECK.due("38: undone", x.taken(5, 2), 5);
        CHECK.due("35: an ending is no row", x.put(5, 0, 1), -12);
        CHECK.due("36: an ending has no elements", x.element(5, 0), Long.MIN_VALUE);
    }

    private static void rows() {
        AlreadyJudged x = new AlreadyJudged();
        CHECK.due("34: no elements", x.row(0, 0, 0), 1);
        CHECK.due("35: none to put", x.put(0, 0, 1), -13);
        CHECK.due("34: sixty", x.row(0, 4, 60), 1);
        CHECK.due("35: the last", x.put(0, 59, 1), 1);
        CHECK.due("35: behind it", x.put(0, 60, 1), -13);
        CHECK.due("35: below", x.put(0, -1, 1), -13);
        CHECK.due("34: sixty-one", x.row(0, 4, 61), -1);
        CHECK.due("34: below", x.row(0, 4, -1), -14);
        CHECK.due("34: sort 5", x.row(0, 5, 1), -1);
        CHECK.due("34: sort -1", x.row(0, -1, 1), -1);
        CHECK.due("34: bad ahead of a size below 0", x.row(0, 5, -1), -1);
        CHECK.due("34: place below", x.row(-1, 0, 1), -1);
        CHECK.due("34: place above", x.row(6, 0, 1), -1);
        CHECK.due("34: refused, unchanged", x.element(0, 59), 1);
        CHECK.due("34: a new row", x.row(0, 4, 60), 1);
        CHECK.due("34: is 0 at first", x.element(0, 59), 0);
        CHECK.due("35: place below", x.put(-1, 0, 1), -1);
        CHECK.due("35: place above", x.put(6, 0, 1), -1);
        CHECK.due("35: nothing", x.put(1, 99, 1), -11);
        CHECK.due("36: place above", x.element(6, 0), Long.MIN_VALUE);
        CHECK.due("36: place below", x.element(-1, 0), Long.MIN_VALUE);
        CHECK.due("36: nothing", x.element(1, 0), Long.MIN_VALUE);
        CHECK.due("36: behind the row", x.element(0, 60), Long.MIN_VALUE);
        CHECK.due("36: ahead of it", x.element(0, -1), Long.MIN_VALUE);
    }

    private static void elements() {
        AlreadyJudged x = new AlreadyJudged();
        long[] values = {0, 1, -1, 127, 128, 255, 256, 32768, 65536, 1L << 31, 1L << 32, -129, Long.MAX_VALUE, Long.MIN_VALUE};
        for (int sort = 0; sort <= 4; sort++) {
            x.row(sort, sort, 1);
            for (long v : values) {
                long want = sort == 4 ? (v != 0 ? 1 : 0) : v << 64 - SIZES[sort] >> 64 - SIZES[sort];
                CHECK.due("35: put", x.put(sort, 0, v), 1);
                CHECK.due("36: sort " + sort + " keeps of " + v, x.element(sort, 0), want);
            }
        }
    }

    private static void shift() {
        AlreadyJudged x = Check.withClaims(1);
        x.row(0, 2, 5);
        for (int i = 0; i < 5; i++) {
            x.put(0, i, i + 1);
        }
        CHECK.due("37: the same row, onward", x.shift(0, 0, 0, 1, 4), 4);
        long[] onward = {1, 1, 2, 3, 4};
        for (int i = 0; i < 5; i++) {
            CHECK.due("37: as they all were before", x.element(0, i), onward[i]);
        }
        CHECK.due("37: back", x.shift(0, 2, 0, 0, 3), 3);
        long[] back = {2, 3, 4, 3, 4};
        for (int i = 0; i < 5; i++) {
            CHECK.due("37: back, as they were", x.element(0, i), back[i]);
        }
        x.row(1, 2, 3);
        CHECK.due("37: another one", x.shift(0, 1, 1, 0, 3), 3);
        CHECK.due("37: came", x.element(1, 2), 3);
        CHECK.due("37: none at the end", x.shift(0, 5, 1, 3, 0), 0);
        CHECK.due("37: n below 0", x.shift(0, 1, 1, 1, -1), -13);
        CHECK.due("37: i below 0", x.shift(0, -1, 1, 0, 1), -13);
        CHECK.due("37: j below 0", x.shift(0, 0, 1, -1, 1), -13);
        CHECK.due("37: beyond the one", x.shift(1, 0, 0, 0, 4), -13);
        CHECK.due("37: beyond the other", x.shift(0, 0, 1, 0, 4), -13);
        CHECK.due("37: none, beyond", x.shift(0, 6, 1, 0, 0), -13);
        CHECK.due("37: far beyond", x.shift(0, Integer.MAX_VALUE, 1, 0, Integer.MAX_VALUE), -13);
        CHECK.due("37: nothing here", x.shift(2, 0, 1, 0, -1), -11);
        CHECK.due("37: nothing there", x.shift(1, 0, 2, 0, 1), -11);
        x.row(3, 3, 3);
        CHECK.due("37: unlike sorts", x.shift(1, 0, 3, 0, -1), -12);
        Check.suit(x, "0>1:0=mw@50/0");
        x.keep(4, 0);
        CHECK.due("37: an ending here", x.shift(4, 0, 1, 0, 1), -12);
        CHECK.due("37: an ending there", x.shift(1, 0, 4, 0, 1), -12);
        CHECK.due("37: two endings", x.shift(4, 0, 4, 0, 0), -12);
        CHECK.due("37: nothing ahead of unlike", x.shift(4, 0, 2, 0, 1), -11);
        CHECK.due("37: place below", x.shift(-1, 0, 2, 0, 1), -1);
        CHECK.due("37: place above", x.shift(2, 0, 6, 0, 1), -1);
        CHECK.due("37: refused, unchanged", x.element(1, 2), 3);
    }

    private static void count() {
        AlreadyJudged x = Check.withClaims(2);
        x.shoe(0, 1, 1, 0);
        x.shoe(0, 1, 1, 0);
        x.shoe(0, 1, 1, 0);
        Check.suit(x, "0>1:0=mw@50/0");
        x.feed(4, 0);
        x.wish(0, 1);
        x.wish(1, 1);
        x.moveShoe(0, 9);
        x.act(0, 3, 1);
        long[] want = {3, 2, 1, 4, 2, 1, 5};
        for (int what = 0; what < want.length; what++) {
            CHECK.due("39: count(" + what + ")", x.count(what), want[what]);
        }
        CHECK.due("39: below", x.count(-1), -1);
        CHECK.due("39: above", x.count(7), -1);
    }
}
