/** Promises 15 to 21: what COUNTS, what is CLOSED, LEFT, LOST, what OPENS, CLASHES. */
public final class ClosedTest {
    private static final Check CHECK = new Check();

    public static void main(String[] args) {
        counts();
        met();
        metByWhom();
        metByLaw();
        partsOfASuit();
        point();
        pointBothWays();
        left();
        lost();
        opens();
        clash();
        CHECK.end("ClosedTest");
    }

    private static void counts() {
        AlreadyJudged x = Check.withClaims(1);
        Check.suit(x, "0>1:0=ml@50/2");
        CHECK.due("15: on its day", x.counts(0, 50, 2), 1);
        CHECK.due("15: ahead of it", x.counts(0, 49, 2), 0);
        CHECK.due("15: in another land, without a law", x.counts(0, 50, 3), 1);
        Check.law(x, 33, "l=2&h=3&k=1&w=0&d=7");
        Check.law(x, 32, "0");
        CHECK.due("15: the law heeds it", x.counts(0, 57, 3), 1);
        CHECK.due("15: the law does not", x.counts(0, 58, 3), 0);
        CHECK.due("15: its own land asks no law", x.counts(0, 58, 2), 1);
        Check.law(x, 33, "k=5");
        CHECK.due("15: not undone", x.counts(0, 60, 3), 0);
        x.undone(0, 60);
        CHECK.due("15: undone on that day", x.counts(0, 60, 3), 1);
        CHECK.due("15: not yet undone", x.counts(0, 59, 3), 0);
        CHECK.due("15: no such suit", x.counts(1, 50, 2), -1);
        CHECK.due("15: suit below", x.counts(-1, 50, 2), -1);
        CHECK.due("15: day below", x.counts(0, -1, 2), -1);
        CHECK.due("15: day above", x.counts(0, 10000, 2), -1);
        CHECK.due("15: land below", x.counts(0, 50, -1), -1);
        CHECK.due("15: land above", x.counts(0, 50, 8), -1);
    }

    private static void met() {
        AlreadyJudged x = new AlreadyJudged();
        x.claim(1, 3, 0);
        x.claim(1, 3, 1);
        x.claim(1, 4, 0);
        x.claim(203, 3, 0);
        CHECK.due("16: open", x.met(0, -1, 500), -2);
        Check.suit(x, "0>1:0=fw@40/0");
        Check.suit(x, "0>1:0=dw@40/0");
        CHECK.due("16: form and default close nothing", x.met(0, -1, 500), -2);
        Check.suit(x, "0>1:0=aw@50/0");
        Check.suit(x, "0>1:0=mw@45/0");
        CHECK.due("16: the least number", x.met(0, -1, 500), 2);
        CHECK.due("16: the one that was there", x.met(0, -1, 490), 3);
        CHECK.due("16: not yet", x.met(0, -1, 440), -2);
        CHECK.due("16: another plea of the fact", x.met(1, -1, 500), 2);
        CHECK.due("16: another fact", x.met(2, -1, 500), -2);
        CHECK.due("16: other people", x.met(3, -1, 500), -2);
        CHECK.due("16: the claim of any people", x.met(3, 1, 500), 2);
        CHECK.due("16: the other way round", x.met(3, 100, 500), 2);
        CHECK.due("16: against oneself", x.met(0, 0, 500), -2);
        CHECK.due("16: no such claim", x.met(4, -1, 500), -1);
        CHECK.due("16: claim below", x.met(-1, -1, 500), -1);
        CHECK.due("16: pq below", x.met(0, -2, 500), -1);
        CHECK.due("16: p above", x.met(0, 2000, 500), -1);
        CHECK.due("16: q above", x.met(0, 20, 500), -1);
        CHECK.due("16: dl below", x.met(0, -1, -1), -1);
        CHECK.due("16: land 8", x.met(0, -1, 508), -1);
        CHECK.due("16: day above", x.met(0, -1, 100000), -1);
    }

    private static void metByWhom() {
        AlreadyJudged x = Check.withClaims(1);
        x.shoe(5, 0, 1, 60);
        x.shoe(6, 1, 2, 70);
        x.shoe(7, 6, 2, 0);
        Check.suit(x, "0>1:0=mw@50/0");
        CHECK.due("16: an heir, too early", x.met(0, 501, 590), -2);
        CHECK.due("16: an heir", x.met(0, 501, 600), 0);
        CHECK.due("16: an heir against a buyer", x.met(0, 506, 700), 0);
        CHECK.due("16: in two steps", x.met(0, 507, 700), 0);
        CHECK.due("16: the buyer against the heir", x.met(0, 705, 700), 0);
        CHECK.due("16: the buyer, too early", x.met(0, 506, 690), -2);
        CHECK.due("16: both on one side", x.met(0, 500, 700), -2);
        for (int i = 7; i < 11; i++) {
            x.shoe(i + 1, i, 1, 0);
        }
        Check.law(x, 25, "1");
        CHECK.due("16: in six steps", x.met(0, 11, 705), 0);
        CHECK.due("27: which hangs on the first of them", x.hangs(0, 11, 705), 1);
        x.shoe(7, 1, 1, 0);
        x.shoe(8, 1, 1, 0);
        x.shoe(9, 1, 1, 0);
        x.shoe(10, 1, 1, 0);
        CHECK.due("27: on the last one alone", x.hangs(0, 11, 705), 6);
        Check.law(x, 23, "0");
        CHECK.due("16: by BINDS of the land where it is asked", x.met(0, 501, 703), -2);
        CHECK.due("16: the people themselves need no shoe", x.met(0, 1, 703), 0);
    }

    private static void metByLaw() {
        AlreadyJudged x = new AlreadyJudged();
        x.claim(1, 3, 0);
        x.claim(1, 3, 1);
        x.claim(1, 4, 0);
        x.claim(100, 3, 0);
        Check.suit(x, "0>1:0=mw@50/2");
        Check.law(x, 0, "s&!a");
        CHECK.due("3: s of another fact", x.met(2, -1, 500), 0);
        CHECK.due("3: a excluded", x.met(0, -1, 500), -2);
        Check.law(x, 0, "c");
        CHECK.due("3: the very claim", x.met(0, -1, 500), 0);
        CHECK.due("3: no other claim", x.met(3, -1, 500), -2);
        CHECK.due("3: the very claim of others", x.met(0, 100, 500), 0);
        Check.law(x, 0, "r");
        CHECK.due("3: r 0", x.met(0, -1, 500), -2);
        CHECK.due("3: r 1", x.met(0, 100, 500), 0);
        Check.law(x, 0, "l=2&h=0&d=10&w&k=1&!f&!n");
        CHECK.due("3: days, lands, how it ended", x.met(2, -1, 600), 0);
        CHECK.due("3: another day", x.met(2, -1, 610), -2);
        Check.law(x, 30, "0");
        CHECK.due("3: a judgment that does not count", x.met(2, -1, 600), -2);
        AlreadyJudged y = new AlreadyJudged();
        y.claim(1, 0, 0);
        y.claim(1, 1, 1);
        y.claim(1, 0, 1);
        Check.suit(y, "0>1:0,1=mw@0/0");
        Check.law(y, 0, "a&s");
        CHECK.due("3: a and s by one and the same claim asked", y.met(2, -1, 0), -2);
        Check.law(y, 0, "a&!s");
        CHECK.due("3: by the first", y.met(2, -1, 0), 0);
        Check.law(y, 0, "!a&s");
        CHECK.due("3: by the second", y.met(2, -1, 0), 0);
        y.shoe(0, 1, 1, 0);
        y.shoe(1, 0, 1, 0);
        Check.law(y, 0, "r");
        CHECK.due("3: who stands on both sides is met by either", y.met(0, -1, 0), 0);
        AlreadyJudged z = new AlreadyJudged();
        z.claim(203, 5, 1);
        z.claim(203, 6, 2);
        Check.suit(z, "2>3:0=mw@0/0");
        Check.law(z, 0, "!a&!s&!c");
        CHECK.due("3: a claim that is like it in nothing", z.met(1, -1, 0), 0);
        CHECK.due("3: there is none of them", z.met(0, -1, 0), -2);
        CHECK.due("16: pq 0 is not as told", z.met(1, 0, 0), -2);
        Check.law(z, 0, "r=1");
        CHECK.due("3: r is 1", z.met(1, 302, 0), 0);
    }

    private static void partsOfASuit() {
        AlreadyJudged x = Check.withClaims(3);
        Check.suit(x, "0>1:2,0=p1w@50/0");
        CHECK.due("3: a part closes by facts, too", x.met(0, -1, 500), 0);
        Check.law(x, 0, "c");
        CHECK.due("3: among the first ones", x.met(2, -1, 500), 0);
        CHECK.due("3: not among them", x.met(0, -1, 500), -2);
        Check.law(x, 0, "k=5&c");
        x.undone(0, 60);
        CHECK.due("2: a part still", x.met(2, -1, 590), -2);
        CHECK.due("2: undone on those days", x.met(2, -1, 600), 0);
        CHECK.due("2: and a part no more", x.met(0, -1, 600), 0);
    }

    private static void point() {
        AlreadyJudged x = Check.withClaims(1);
        x.shoe(5, 0, 1, 60);
        Check.suit(x, "0>1:0;0+fn;1-fn;2+f;3-n;4+;31-fn=dl@50/2");
        CHECK.due("17: so", x.point(0, 1, 500, 0), 1);
        CHECK.due("17: not", x.point(1, 1, 500, 0), 2);
        CHECK.due("17: not needed", x.point(2, 1, 500, 0), 0);
        CHECK.due("17: not fought", x.point(3, 1, 500, 0), 0);
        CHECK.due("17: neither", x.point(4, 1, 500, 0), 0);
        CHECK.due("17: not found", x.point(5, 1, 500, 0), 0);
        CHECK.due("17: the last point", x.point(31, 1, 500, 0), 2);
        CHECK.due("17: either way round", x.point(0, 100, 500, 0), 1);
        CHECK.due("17: too early", x.point(0, 1, 490, 0), 0);
        CHECK.due("17: in another one's shoes", x.point(0, 105, 600, 0), 1);
        CHECK.due("17: not yet in them", x.point(0, 105, 590, 0), 0);
        CHECK.due("17: other people", x.point(0, 2, 500, 0), 0);
        CHECK.due("17: not both", x.point(0, 1, 500, 1), 0);
        CHECK.due("17: open is not both", x.point(5, 1, 500, 1), 0);
        Check.law(x, 10, "!f&n&k=4&w=0&l=2&h=0&d=1");
        CHECK.due("17: by SETTLES of the land", x.point(3, 1, 510, 0), 2);
        CHECK.due("17: on that day alone", x.point(3, 1, 520, 0), 0);
        Check.law(x, 10, "a|s|c|r");
        CHECK.due("17: names that are not of SETTLES", x.point(0, 100, 500, 0), 0);
        Check.law(x, 30, "0");
        Check.law(x, 10, "1");
        CHECK.due("17: a judgment that does not count", x.point(0, 1, 500, 0), 0);
        CHECK.due("17: point below", x.point(-1, 1, 500, 0), -1);
        CHECK.due("17: point above", x.point(32, 1, 500, 0), -1);
        CHECK.due("17: pq -1", x.point(0, -1, 500, 0), -1);
        CHECK.due("17: pq above", x.point(0, 2000, 500, 0), -1);
        CHECK.due("17: dl below", x.point(0, 1, -1, 0), -1);
        CHECK.due("17: land 8", x.point(0, 1, 8, 0), -1);
        CHECK.due("17: what 2", x.point(0, 1, 500, 2), -1);
        CHECK.due("17: what -1", x.point(0, 1, 500, -1), -1);
    }

    private static void pointBothWays() {
        AlreadyJudged x = Check.withClaims(1);
        Check.suit(x, "0>1:0;3+fn=mw@90/0");
        Check.suit(x, "1>0:0;3-fn=mw@80/0");
        CHECK.due("17: one so far", x.point(3, 1, 800, 0), 2);
        CHECK.due("17: one is not both", x.point(3, 1, 800, 1), 0);
        CHECK.due("17: the latest, not the greater number", x.point(3, 1, 900, 0), 1);
        CHECK.due("17: both", x.point(3, 1, 900, 1), 1);
        Check.suit(x, "0>1:0;3-fn=mw@90/0");
        CHECK.due("17: of like days the greater number", x.point(3, 1, 900, 0), 2);
        CHECK.due("28: without the last it is the other way", x.need(3, 1, 900), 2);
        CHECK.due("28: without the only one it is open", x.need(3, 1, 800), 1);
        Check.suit(x, "0>1:0;3-fn=mw@95/0");
        CHECK.due("28: none", x.need(3, 1, 950), -2);
    }

    private static void left() {
        AlreadyJudged x = Check.withClaims(4);
        x.claim(203, 1, 0);
        CHECK.due("18: all", x.left(500, -1), 5);
        Check.suit(x, "0>1:1,3=mw@50/0");
        CHECK.due("18: how many", x.left(500, -1), 3);
        CHECK.due("18: first", x.left(500, 0), 0);
        CHECK.due("18: second", x.left(500, 1), 2);
        CHECK.due("18: third", x.left(500, 2), 4);
        CHECK.due("18: none such", x.left(500, 3), -1);
        CHECK.due("18: the day ahead", x.left(490, -1), 5);
        Check.law(x, 7, "h=7");
        CHECK.due("18: by the law of that land", x.left(507, -1), 1);
        CHECK.due("18: i below", x.left(500, -2), -1);
        CHECK.due("18: i far above", x.left(500, Integer.MAX_VALUE), -1);
        CHECK.due("18: dl below", x.left(-1, -1), -1);
        CHECK.due("18: land 9", x.left(9, -1), -1);
        CHECK.due("18: no claims", new AlreadyJudged().left(0, -1), 0);
        AlreadyJudged all = Check.withClaims(32);
        CHECK.due("18: the last of thirty-two", all.left(0, 31), 31);
    }

    private static void lost() {
        AlreadyJudged x = new AlreadyJudged();
        x.claim(1, 3, 0);
        x.claim(1, 3, 1);
        x.claim(1, 4, 0);
        x.claim(100, 3, 2);
        x.claim(501, 3, 2);
        x.shoe(5, 0, 1, 60);
        Check.suit(x, "0>1:0=mw@50/2");
        Check.suit(x, "0>1:1,3,4=mw@60/2");
        CHECK.due("19: how many", x.lost(0, -1), 2);
        CHECK.due("19: another plea", x.lost(0, 0), 1);
        CHECK.due("19: one of the other side", x.lost(0, 1), 3);
        CHECK.due("19: none such", x.lost(0, 2), -1);
        CHECK.due("19: by it alone, and not asked in it", x.lost(1, -1), 1);
        CHECK.due("19: though closed already", x.lost(1, 0), 0);
        x.moveShoe(0, 50);
        CHECK.due("19: by who is bound on its day", x.lost(0, -1), 3);
        Check.law(x, 2, "a&d=0&r=0");
        CHECK.due("19: by the law of its land", x.lost(0, -1), 2);
        x.undone(0, 50);
        Check.law(x, 2, "k=5&a");
        CHECK.due("19: undone on its own day", x.lost(0, -1), 3);
        CHECK.due("19: no such suit", x.lost(2, -1), -1);
        CHECK.due("19: suit below", x.lost(-1, -1), -1);
        CHECK.due("19: i below", x.lost(0, -2), -1);
    }

    private static void opens() {
        AlreadyJudged x = Check.withClaims(16);
        for (int i = 16; i < 32; i++) {
            x.claim(1, i - 16, 1);
        }
        Check.suit(x, "0>1:0,15=mw@50/0");
        Check.suit(x, "0>1:0,1=mw@60/0");
        CHECK.due("20: alone", x.opens(0, 500), 0x80018001L);
        CHECK.due("20: with another one", x.opens(0, 600), 0x80008000L);
        CHECK.due("20: the other one", x.opens(1, 600), 0x20002L);
        CHECK.due("20: not there yet", x.opens(1, 590), 0);
        Check.law(x, 6, "h=6&c");
        CHECK.due("20: by the law of that land", x.opens(0, 606), 0x8000L);
        CHECK.due("20: no such suit", x.opens(2, 600), -1);
        CHECK.due("20: suit below", x.opens(-1, 600), -1);
        CHECK.due("20: dl below", x.opens(0, -1), -1);
        CHECK.due("20: land 8", x.opens(0, 608), -1);
        CHECK.due("20: day above", x.opens(0, 100000), -1);
        AlreadyJudged y = Check.withClaims(2);
        for (int i = 0; i < 30; i++) {
            y.claim(1, 2, 0);
        }
        Check.suit(y, "0>1:31=mw@50/0");
        CHECK.due("20: the last claim's bit", y.opens(0, 500), 0xfffffffcL);
    }

    private static void clash() {
        AlreadyJudged x = Check.withClaims(1);
        CHECK.due("21: none", x.clash(-1), 0);
        CHECK.due("21: none such", x.clash(0), -1);
        Check.suit(x, "0>1:0;3+n;1+fn=mw@90/0");
        Check.suit(x, "2>3:0;3-n;1-n=fl@80/1");
        Check.suit(x, "0>1:0;3-f;1+n=mw@80/0");
        Check.suit(x, "0>1:0;3-n;1+n=mw@80/0");
        CHECK.due("21: how many", x.clash(-1), 5);
        CHECK.due("21: point 1, first and second", x.clash(0), 1);
        CHECK.due("21: point 1, second and third", x.clash(1), 102);
        CHECK.due("21: point 1, second and fourth", x.clash(2), 103);
        CHECK.due("21: point 3, the pair again", x.clash(3), 1);
        CHECK.due("21: point 3, first and fourth", x.clash(4), 3);
        CHECK.due("21: none such behind", x.clash(5), -1);
        Check.suit(x, "0>1:0;0+n;31-n=mw@80/0");
        Check.suit(x, "0>1:0;0-n;31+n=mw@80/0");
        CHECK.due("21: point 0 is first", x.clash(0), 405);
        CHECK.due("21: point 31 is last", x.clash(6), 405);
        CHECK.due("21: i below", x.clash(-2), -1);
        CHECK.due("21: i far above", x.clash(Integer.MAX_VALUE), -1);
        CHECK.due("21: i far below", x.clash(Integer.MIN_VALUE), -1);
    }
}
