/** Promises 22 to 30: wished CLAIMS, who should have been joined, rings, what hangs, changes. */
public final class OrdersTest {
    private static final Check CHECK = new Check();

    public static void main(String[] args) {
        wish();
        order();
        orderByDays();
        joined();
        ring();
        hangs();
        need();
        undo();
        fortyChanges();
        CHECK.end("OrdersTest");
    }

    private static void wish() {
        AlreadyJudged x = Check.withClaims(7);
        CHECK.due("22: first", x.wish(6, 0), 1);
        CHECK.due("22: second", x.wish(0, 1), 2);
        CHECK.due("22: told", x.wish(6, 1), -1);
        CHECK.due("22: no such claim", x.wish(7, 1), -1);
        CHECK.due("22: claim below", x.wish(-1, 1), -1);
        CHECK.due("22: won 2", x.wish(1, 2), -1);
        CHECK.due("22: won -1", x.wish(1, -1), -1);
        CHECK.due("22: two", x.count(4), 2);
        for (int i = 1; i < 4; i++) {
            CHECK.due("22: more", x.wish(i, 1), i + 2);
        }
        CHECK.due("22: full", x.wish(4, 1), -3);
        CHECK.due("22: told, ahead of full", x.wish(3, 1), -1);
        CHECK.due("24: how many there were", x.unwish(), 5);
        CHECK.due("24: none", x.count(4), 0);
        CHECK.due("24: none there were", x.unwish(), 0);
        CHECK.due("22: told no more", x.wish(3, 1), 1);
    }

    private static void order() {
        AlreadyJudged x = new AlreadyJudged();
        x.claim(1, 0, 0);
        x.claim(1, 0, 1);
        x.claim(1, 1, 0);
        x.claim(1, 2, 0);
        CHECK.due("23: none is told", x.order(0, 0), -5);
        CHECK.due("23: bad ahead of that", x.order(-1, 0), -1);
        CHECK.due("23: land 8", x.order(8, 0), -1);
        CHECK.due("23: what 2", x.order(0, 2), -1);
        x.wish(3, 1);
        CHECK.due("23: one", x.order(100, 0), 1);
        CHECK.due("23: its row", x.order(100, 1), 1);
        x.wish(0, 1);
        x.wish(1, 0);
        x.wish(2, 0);
        CHECK.due("23: two of one fact", x.order(100, 0), 3);
        CHECK.due("23: who can't be asked stays", x.order(100, 1), 1234);
        Check.law(x, 0, "a&w");
        CHECK.due("23: lost ones close nothing", x.order(100, 0), 4);
        CHECK.due("23: the first row of the most", x.order(100, 1), 1324);
        Check.suit(x, "0>1:3=mw@10/0");
        CHECK.due("23: closed by a suit", x.order(100, 0), 3);
        CHECK.due("23: all rows with the most, the first", x.order(100, 1), 1324);
        CHECK.due("23: the wished ones stay", x.count(4), 4);
        CHECK.due("23: no suits came of it", x.count(2), 1);
        x.unwish();
        CHECK.due("23: none is told again", x.order(100, 1), -5);
    }

    private static void orderByDays() {
        AlreadyJudged x = Check.withClaims(2);
        x.claim(1, 0, 1);
        x.wish(0, 1);
        x.wish(1, 1);
        x.wish(2, 1);
        Check.suit(x, "0>1:1=mw@102/0");
        CHECK.due("23: closed on the last day alone", x.order(1000, 0), 2);
        CHECK.due("23: the row", x.order(1000, 1), 123);
        CHECK.due("23: on the day behind it is closed", x.order(1010, 1), 213);
        CHECK.due("23: with it", x.order(1010, 0), 2);
        Check.law(x, 0, "a&d<2");
        CHECK.due("23: two days between", x.order(5000, 1), 123);
        CHECK.due("23: all three", x.order(5000, 0), 3);
        Check.law(x, 0, "a&d=2");
        CHECK.due("23: the very next day", x.order(5000, 1), 132);
        Check.law(x, 0, "a&k=1&l=0&h=0&!c&!r");
        CHECK.due("23: by merits, of the land", x.order(5000, 0), 2);
        Check.law(x, 0, "a&k=1&l=0&h=0&c");
        CHECK.due("23: the very claim of the suit", x.order(5000, 0), 2);
        CHECK.due("23: no other is the very claim", x.order(0, 0), 3);
        ofFiveAlike("d=1", 3);
        ofFiveAlike("d=2", 3);
        ofFiveAlike("d=3", 3);
        ofFiveAlike("d=4", 4);
        ofFiveAlike("d>1", 2);
        ofFiveAlike("d>4", 5);
        AlreadyJudged y = Check.withClaims(1);
        y.claim(501, 0, 0);
        y.claim(100, 0, 0);
        y.shoe(5, 0, 1, 101);
        y.wish(0, 1);
        y.wish(1, 1);
        CHECK.due("23: not bound yet", y.order(990, 1), 12);
        CHECK.due("23: bound on the day on which it is asked", y.order(1000, 1), 21);
        CHECK.due("23: the heir's suit does not bind", y.order(1000, 0), 2);
        y.unwish();
        y.wish(2, 1);
        y.wish(0, 1);
        Check.law(y, 0, "r");
        CHECK.due("23: sides the other way round", y.order(1000, 0), 1);
        CHECK.due("23: on the last day", y.order(99990, 0), 1);
    }

    private static void ofFiveAlike(String law, int most) {
        AlreadyJudged x = new AlreadyJudged();
        Check.law(x, 3, law);
        for (int i = 0; i < 5; i++) {
            x.claim(1, 0, 0);
            x.wish(i, 1);
        }
        CHECK.due("23: five alike by " + law, x.order(103, 0), most);
        CHECK.due("23: their first row by " + law, x.order(103, 1), 12345);
    }

    private static void joined() {
        AlreadyJudged x = Check.withClaims(1);
        Check.suit(x, "0>1:0=mw@50/2");
        CHECK.due("25: one", x.joined(0, 1 << 19, 0), 1);
        CHECK.due("25: itself", x.joined(0, 1 << 19, 1), 1 << 19);
        CHECK.due("25: eight", x.joined(0, 0xff, 0), 8);
        CHECK.due("25: nine", x.joined(0, 0x1ff, 0), -1);
        CHECK.due("25: none", x.joined(0, 0, 0), -1);
        CHECK.due("25: person 20", x.joined(0, 1 << 20, 0), -1);
        CHECK.due("25: below", x.joined(0, -1, 0), -1);
        CHECK.due("25: what 2", x.joined(0, 1, 2), -1);
        CHECK.due("25: what -1", x.joined(0, 1, -1), -1);
        CHECK.due("25: no such suit", x.joined(1, 1, 0), -1);
        x.shoe(0, 9, 1, 50);
        x.shoe(1, 9, 1, 50);
        x.shoe(2, 8, 1, 50);
        x.shoe(1, 8, 1, 51);
        CHECK.due("25: two of three stand in one's shoes", x.joined(0, 7, 0), 2);
        CHECK.due("25: the least bits: 2 itself", x.joined(0, 7, 1), 1 << 9 | 1 << 2);
        CHECK.due("25: of two, one alone", x.joined(0, 3, 1), 1 << 9);
        x.moveShoe(3, 50);
        CHECK.due("25: the least as a number", x.joined(0, 7, 1), 1 << 8 | 1);
        x.moveShoe(0, 51);
        CHECK.due("25: on its day", x.joined(0, 3, 0), 2);
        Check.law(x, 22, "0");
        CHECK.due("25: by BINDS of its land", x.joined(0, 7, 0), 3);
        CHECK.due("25: themselves", x.joined(0, 7, 1), 7);
    }

    private static void noLandHeeds(AlreadyJudged x) {
        for (int land = 0; land < 8; land++) {
            Check.law(x, 30 + land, "0");
        }
    }

    private static void ring() {
        AlreadyJudged x = new AlreadyJudged();
        CHECK.due("26: all heed all", x.ring(0), 2);
        CHECK.due("26: the first", x.ring(1), 12);
        CHECK.due("26: what 2", x.ring(2), -1);
        CHECK.due("26: what -1", x.ring(-1), -1);
        noLandHeeds(x);
        CHECK.due("26: none", x.ring(0), -2);
        CHECK.due("26: none, digits", x.ring(1), -2);
        for (int land = 0; land < 8; land++) {
            Check.law(x, 30 + land, "l=h");
        }
        CHECK.due("26: a land that heeds itself is no ring", x.ring(0), -2);
        for (int land = 0; land < 8; land++) {
            Check.law(x, 30 + land, "l=(h+3)%8");
        }
        CHECK.due("26: all eight", x.ring(0), 8);
        CHECK.due("26: each heeds the next", x.ring(1), 14725836);
        Check.law(x, 35, "k=1&w=1&d=0&l=2");
        CHECK.due("26: by merits, won, of that day", x.ring(1), 36);
        Check.law(x, 32, "l=7");
        Check.law(x, 37, "l=5|l=6");
        Check.law(x, 36, "l=7&0");
        CHECK.due("26: three", x.ring(0), 3);
        CHECK.due("26: from its least land on", x.ring(1), 386);
        Check.law(x, 30, "l=1");
        Check.law(x, 31, "l=4");
        Check.law(x, 34, "l=0");
        CHECK.due("26: the first of two", x.ring(1), 125);
        Check.law(x, 36, "l=7");
        CHECK.due("26: the fewest ahead of the first", x.ring(1), 78);
        noLandHeeds(x);
        Check.law(x, 31, "l=2|l=3|l=4");
        Check.law(x, 32, "l=5");
        Check.law(x, 33, "l=6");
        Check.law(x, 36, "l=1|l=5");
        CHECK.due("26: past a land that leads nowhere", x.ring(1), 247);
        noLandHeeds(x);
        Check.law(x, 30, "k-1|w-1|d|l=1&h-1");
        Check.law(x, 31, "l=0");
        CHECK.due("26: the land that heeds", x.ring(1), 12);
    }

    private static void hangs() {
        AlreadyJudged x = Check.withClaims(1);
        x.shoe(9, 10, 1, 0);
        x.shoe(5, 0, 1, 60);
        x.shoe(6, 1, 2, 70);
        CHECK.due("27: open", x.hangs(0, -1, 700), -1);
        Check.suit(x, "0>1:0=mw@50/0");
        CHECK.due("27: on no shoe", x.hangs(0, -1, 700), -2);
        CHECK.due("27: on one", x.hangs(0, 501, 700), 1);
        CHECK.due("27: on the first of two", x.hangs(0, 506, 700), 1);
        CHECK.due("27: on the other side's", x.hangs(0, 6, 700), 2);
        CHECK.due("27: open yet", x.hangs(0, 501, 590), -1);
        x.shoe(5, 0, 1, 60);
        CHECK.due("27: of two alike on none", x.hangs(0, 501, 700), -2);
        CHECK.due("27: but the buyer's", x.hangs(0, 506, 700), 2);
        Check.suit(x, "5>6:0=mw@65/0");
        CHECK.due("27: another suit closes it", x.hangs(0, 506, 700), -2);
        CHECK.due("27: the same shoe stands", x.count(0), 4);
        CHECK.due("27: and binds", x.met(0, 501, 700), 0);
        CHECK.due("27: open for another one", x.hangs(0, 901, 700), -1);
        Check.suit(x, "10>1:0=mw@65/0");
        CHECK.due("27: on shoe 0", x.hangs(0, 901, 707), 0);
        Check.law(x, 27, "n>1");
        CHECK.due("27: by BINDS of that land", x.hangs(0, 901, 707), -1);
        CHECK.due("27: no such claim", x.hangs(1, -1, 700), -1);
        CHECK.due("27: pq", x.hangs(0, -2, 700), -1);
        CHECK.due("27: p above", x.hangs(0, 2000, 700), -1);
        CHECK.due("27: land 8", x.hangs(0, -1, 708), -1);
    }

    private static void need() {
        AlreadyJudged x = Check.withClaims(1);
        CHECK.due("28: open", x.need(3, 1, 900), -1);
        Check.suit(x, "0>1:0;4+fn=mw@50/0");
        Check.suit(x, "0>1:0;3+fn=mw@50/0");
        CHECK.due("28: the only one", x.need(3, 1, 900), 1);
        CHECK.due("28: either way round", x.need(3, 100, 900), 1);
        Check.suit(x, "0>1:0;3+fn=mw@60/0");
        CHECK.due("28: two alike", x.need(3, 1, 900), -2);
        Check.suit(x, "0>1:0;3-fn=mw@70/0");
        CHECK.due("28: the other way without it", x.need(3, 1, 900), 3);
        CHECK.due("28: not there yet", x.need(3, 1, 690), -2);
        CHECK.due("28: suit 0", x.need(4, 1, 907), 0);
        CHECK.due("28: point 32", x.need(32, 1, 900), -1);
        CHECK.due("28: point below", x.need(-1, 1, 900), -1);
        CHECK.due("28: pq -1", x.need(3, -1, 900), -1);
        CHECK.due("28: land 8", x.need(3, 1, 8), -1);
    }

    private static void undo() {
        AlreadyJudged x = Check.withClaims(1);
        x.shoe(0, 1, 1, 10);
        Check.suit(x, "0>1:0=mw@50/0");
        CHECK.due("29: none", x.undo(), -5);
        CHECK.due("30: none", x.redo(), -5);
        x.won(0, 0);
        x.undone(0, 60);
        x.moveShoe(0, 20);
        x.won(0, 0);
        x.moveShoe(0, 20);
        x.undone(0, 70);
        CHECK.due("39: those that changed something", x.count(5), 3);
        CHECK.due("29: the latest first", x.undo(), 2);
        CHECK.due("29: the shoe's day", x.ofShoe(0, 3), 10);
        CHECK.due("29: then", x.undo(), 1);
        CHECK.due("29: undone from", x.ofSuit(0, 6), -1);
        CHECK.due("29: kind", x.ofSuit(0, 2), 1);
        CHECK.due("29: then", x.undo(), 0);
        CHECK.due("29: won", x.ofSuit(0, 3), 1);
        CHECK.due("29: no more", x.undo(), -5);
        CHECK.due("30: again", x.redo(), 2);
        CHECK.due("30: won", x.ofSuit(0, 3), 0);
        CHECK.due("30: again", x.redo(), 1);
        CHECK.due("30: undone from", x.ofSuit(0, 6), 60);
        CHECK.due("30: what changes nothing lets it stand", x.won(0, 0), 0);
        x.shoe(2, 3, 1, 0);
        CHECK.due("30: and so does what is no change", x.redo(), 0);
        CHECK.due("30: the day", x.ofShoe(0, 3), 20);
        CHECK.due("30: no more", x.redo(), -5);
        CHECK.due("29: back", x.undo(), 2);
        CHECK.due("13: it is", x.undone(0, 70), -2);
        x.moveShoe(0, 30);
        CHECK.due("30: another came behind", x.redo(), -5);
        CHECK.due("29: how many", x.count(5), 3);
        CHECK.due("29: to what it was", x.undo(), 2);
        CHECK.due("29: the day", x.ofShoe(0, 3), 10);
        CHECK.due("29: back to not undone", x.undo(), 1);
        CHECK.due("13: it may be undone on another day", x.undone(0, 70), 1);
        CHECK.due("11: from", x.ofSuit(0, 6), 70);
    }

    private static void fortyChanges() {
        AlreadyJudged x = new AlreadyJudged();
        x.shoe(0, 1, 1, 0);
        for (int i = 1; i <= 45; i++) {
            x.moveShoe(0, i);
            CHECK.due("39: forty at most", x.count(5), Math.min(i, 40));
        }
        for (int i = 39; i >= 0; i--) {
            CHECK.due("29: how many", x.undo(), i);
            CHECK.due("29: the day", x.ofShoe(0, 3), i + 5);
        }
        CHECK.due("29: no more", x.undo(), -5);
        for (int i = 39; i >= 0; i--) {
            CHECK.due("30: how many", x.redo(), i);
        }
        CHECK.due("30: the day", x.ofShoe(0, 3), 45);
        x.undo();
        x.moveShoe(0, 99);
        CHECK.due("39: forty still", x.count(5), 40);
        CHECK.due("30: none", x.redo(), -5);
    }
}
