/** Promises 9 to 14: THE TAPE, SUITS as texts, LAWS as texts. */
public final class SuitsLawsTest {
    private static final Check CHECK = new Check();

    public static void main(String[] args) {
        feed();
        suit();
        faultsOfSuits();
        won();
        undone();
        law();
        faultsOfLaws();
        values();
        CHECK.end("SuitsLawsTest");
    }

    private static void feed() {
        AlreadyJudged x = new AlreadyJudged();
        CHECK.due("9: n 0", x.feed(0, 0), -1);
        CHECK.due("9: n 5", x.feed(5, 0), -1);
        CHECK.due("9: one", x.feed(1, '1'), 1);
        CHECK.due("9: and two", x.feed(2, '+' | '1' << 8 | 'q' << 16), 3);
        CHECK.due("9: the lowest first, and no more than n", x.law(0), 1);
        for (int i = 1; i <= 29; i++) {
            CHECK.due("9: fours", x.feed(4, -1), 4 * i);
        }
        CHECK.due("9: nearly full", x.feed(2, 0), 118);
        CHECK.due("9: too many", x.feed(3, 0), -3);
        CHECK.due("9: bad ahead of full", x.feed(5, 0), -1);
        CHECK.due("9: nothing came", x.count(3), 118);
        CHECK.due("9: just full", x.feed(2, 0), 120);
        CHECK.due("9: full", x.feed(1, 0), -3);
        CHECK.due("9: a byte above 127", x.law(0), -100);
    }

    private static void suit() {
        AlreadyJudged x = Check.withClaims(12);
        CHECK.due("10: a suit", Check.suit(x, "07>19:11,0,3;31-fn;0+;07+n;8-f=p2l@0120/7"), 0);
        CHECK.due("10: the tape is empty", x.count(3), 0);
        long[] details = {7, 19, 6, 0, 120, 7, -1, 3, 4, -1};
        for (int what = 0; what < details.length; what++) {
            CHECK.due("11: detail " + what, x.ofSuit(0, what), details[what]);
        }
        CHECK.due("11: the claims in order", x.ofSuit(0, 10), 11);
        CHECK.due("11: second claim", x.ofSuit(0, 11), 0);
        CHECK.due("11: third claim", x.ofSuit(0, 12), 3);
        CHECK.due("11: no fourth claim", x.ofSuit(0, 13), -1);
        CHECK.due("11: not, fought, needed", x.ofSuit(0, 81), 14);
        CHECK.due("11: so", x.ofSuit(0, 50), 1);
        CHECK.due("11: so, needed", x.ofSuit(0, 57), 9);
        CHECK.due("11: not, fought", x.ofSuit(0, 58), 6);
        CHECK.due("11: not found", x.ofSuit(0, 51), 0);
        CHECK.due("11: between the claims and the points", x.ofSuit(0, 49), -1);
        CHECK.due("11: above", x.ofSuit(0, 82), -1);
        CHECK.due("11: below", x.ofSuit(0, -1), -1);
        CHECK.due("11: far above", x.ofSuit(0, Integer.MAX_VALUE), -1);
        CHECK.due("11: far below", x.ofSuit(0, Integer.MIN_VALUE), -1);
        CHECK.due("11: no such suit", x.ofSuit(1, 0), -1);
        CHECK.due("11: suit below", x.ofSuit(-1, 0), -1);
        String endings = "mfad";
        for (int i = 0; i < 4; i++) {
            CHECK.due("10: ending", Check.suit(x, "0>1:0=" + endings.charAt(i) + "w@9999/0"), i + 1);
            CHECK.due("11: its kind", x.ofSuit(i + 1, 2), i + 1);
            CHECK.due("11: won", x.ofSuit(i + 1, 3), 1);
        }
        for (int i = 5; i < 40; i++) {
            CHECK.due("10: as they come", Check.suit(x, "0>1:0=mw@1/0"), i);
        }
        Check.feed(x, "0>1");
        CHECK.due("10: full, ahead of all", x.suit(), -3);
        CHECK.due("10: the tape stays", x.count(3), 3);
        CHECK.due("10: forty", x.count(2), 40);
    }

    private static void fault(AlreadyJudged x, String text, int place) {
        CHECK.due("10: " + text, Check.suit(x, text), -100 - place);
        CHECK.due("10: empty behind " + text, x.count(3), 0);
    }

    private static void faultsOfSuits() {
        AlreadyJudged x = Check.withClaims(12);
        String whole = "0>1:0,11;31+fn=p2w@1234/7";
        for (int i = 0; i < whole.length(); i++) {
            fault(x, whole.substring(0, i), i);
            fault(x, whole.substring(0, i) + "x", i);
            CHECK.due("10: no suit of it", x.count(2), 0);
        }
        fault(x, whole + "0", whole.length());
        fault(x, "20>1:0=mw@1/0", 0);
        fault(x, "20", 0);
        fault(x, "19", 2);
        fault(x, "190>1:0=mw@1/0", 2);
        fault(x, "200>1:0=mw@1/0", 0);
        fault(x, "3>20:0=mw@1/0", 2);
        fault(x, "3>03:0=mw@1/0", 2);
        fault(x, "3>3", 2);
        fault(x, "3>33", 2);
        fault(x, "3>34", 2);
        fault(x, "3>", 2);
        fault(x, "0>1:12=mw@1/0", 4);
        fault(x, "0>1:12", 4);
        fault(x, "0>1:111", 6);
        fault(x, "0>1:0,00=mw@1/0", 6);
        fault(x, "0>1:0,=mw@1/0", 6);
        fault(x, "0>1:0;32+=mw@1/0", 6);
        fault(x, "0>1:0;3", 7);
        fault(x, "0>1:0;3+;03-=mw@1/0", 9);
        fault(x, "0>1:0;3+,1=mw@1/0", 8);
        fault(x, "0>1:0;3f=mw@1/0", 7);
        fault(x, "0>1:0;3-nf=mw@1/0", 9);
        fault(x, "0>1:0;3-ff=mw@1/0", 9);
        fault(x, "0>1:0;3+-=mw@1/0", 8);
        fault(x, "0>1:0=p0w@1/0", 7);
        fault(x, "0>1:0=p2w@1/0", 7);
        fault(x, "0>1:0=pw@1/0", 7);
        fault(x, "0>1:0,1,2,3,4,5,6,7,8,9,10,11=p10w@1/0", 32);
        fault(x, "0>1:0=u@1/0", 6);
        fault(x, "0>1:0=m@1/0", 7);
        fault(x, "0>1:0=mwl@1/0", 8);
        fault(x, "0>1:0=mw@/0", 9);
        fault(x, "0>1:0=mw@12345/0", 13);
        fault(x, "0>1:0=mw@1/8", 11);
        fault(x, " 0>1:0=mw@1/0", 0);
        fault(x, "0>1:0=mw@1/0;", 12);
        fault(x, "0>1:0=mw@1/00", 12);
        fault(x, "\u00ff", 0);
        fault(new AlreadyJudged(), "0>1:0=mw@1/0", 4);
        StringBuilder many = new StringBuilder("0>1:");
        AlreadyJudged y = Check.withClaims(32);
        for (int i = 0; i < 32; i++) {
            many.append(i == 0 ? "" : ",").append(i);
        }
        CHECK.due("10: all claims", Check.suit(y, many + "=p9w@1/0"), 0);
        CHECK.due("11: all of them", y.ofSuit(0, 7), 32);
        CHECK.due("11: the last", y.ofSuit(0, 41), 31);
        CHECK.due("11: none behind", y.ofSuit(0, 42), -1);
        fault(y, many + ",0=mw@1/0", many.length() + 1);
    }

    private static void won() {
        AlreadyJudged x = Check.withClaims(1);
        Check.suit(x, "0>1:0=mw@1/0");
        CHECK.due("12: what it was", x.won(0, 0), 1);
        CHECK.due("12: the same", x.won(0, 0), 0);
        CHECK.due("12: one change", x.count(5), 1);
        CHECK.due("12: it is", x.ofSuit(0, 3), 0);
        CHECK.due("12: v 2", x.won(0, 2), -1);
        CHECK.due("12: v -1", x.won(0, -1), -1);
        CHECK.due("12: no such suit", x.won(1, 0), -1);
        Check.law(x, 0, "w");
        CHECK.due("12: the law asks for it", x.met(0, -1, 10), -2);
        CHECK.due("12: back", x.won(0, 1), 0);
        CHECK.due("12: the law finds it", x.met(0, -1, 10), 0);
    }

    private static void undone() {
        AlreadyJudged x = Check.withClaims(1);
        Check.suit(x, "0>1:0=mw@50/0");
        CHECK.due("13: ahead of its own day", x.undone(0, 49), -1);
        CHECK.due("13: no such suit", x.undone(1, 60), -1);
        CHECK.due("13: day above", x.undone(0, 10000), -1);
        CHECK.due("13: day below", x.undone(0, -1), -1);
        CHECK.due("13: undone", x.undone(0, 60), 1);
        CHECK.due("13: it is", x.undone(0, 70), -2);
        CHECK.due("13: bad ahead of not", x.undone(0, 49), -1);
        CHECK.due("13: from", x.ofSuit(0, 6), 60);
        CHECK.due("13: as a body from the call on", x.ofSuit(0, 2), 5);
        CHECK.due("13: closed ahead of the day", x.met(0, -1, 590), 0);
        CHECK.due("13: open on the day", x.met(0, -1, 600), -2);
        AlreadyJudged y = Check.withClaims(1);
        Check.suit(y, "0>1:0=mw@50/0");
        CHECK.due("13: on its own day", y.undone(0, 50), 1);
        Check.suit(y, "0>1:0=mw@0/0");
        CHECK.due("13: from day 0 on", y.undone(1, 0), 1);
        CHECK.due("13: it is, from day 0 on", y.undone(1, 1), -2);
        CHECK.due("11: its kind", y.ofSuit(1, 2), 5);
        CHECK.due("2: its kind on that day", y.met(0, -1, 0), -2);
    }

    private static void law() {
        AlreadyJudged x = new AlreadyJudged();
        Check.feed(x, "1");
        CHECK.due("14: ul below", x.law(-1), -1);
        CHECK.due("14: land 8", x.law(8), -1);
        CHECK.due("14: land 9 of use 3", x.law(39), -1);
        CHECK.due("14: use 4", x.law(40), -1);
        CHECK.due("14: the tape stays", x.count(3), 1);
        CHECK.due("14: a law", x.law(37), 1);
        CHECK.due("14: the tape is empty", x.count(3), 0);
        CHECK.due("14: no text", x.law(0), -100);
        AlreadyJudged y = Check.withClaims(2);
        Check.suit(y, "0>1:0=mw@0/0");
        CHECK.due("14: without one, facts must be alike", y.met(1, -1, 0), -2);
        Check.law(y, 0, "1");
        CHECK.due("14: the one told counts", y.met(1, -1, 0), 0);
        CHECK.due("14: in its land", y.met(1, -1, 1), -2);
        CHECK.due("14: a fault", Check.law(y, 0, "0?"), -102);
        CHECK.due("14: changes no law", y.met(1, -1, 0), 0);
        Check.law(y, 0, "0");
        CHECK.due("14: the one told last counts", y.met(0, -1, 0), -2);
    }

    private static void lawFault(String text, int place) {
        AlreadyJudged x = new AlreadyJudged();
        CHECK.due("14: " + text, Check.law(x, 0, text), -100 - place);
        CHECK.due("14: empty behind " + text, x.count(3), 0);
    }

    private static void faultsOfLaws() {
        lawFault("1;", 2);
        lawFault(";1", 0);
        lawFault("1;;1", 2);
        lawFault("?1", 0);
        lawFault("1?", 2);
        lawFault("1?2?3", 3);
        lawFault("(1?2)", 2);
        lawFault("(1;2)", 2);
        lawFault("1)", 1);
        lawFault("(1", 2);
        lawFault("()", 1);
        lawFault("1<2<3", 3);
        lawFault("1=2>3", 3);
        lawFault("1||2", 2);
        lawFault("1&&2", 2);
        lawFault("+1", 0);
        lawFault("1+*2", 2);
        lawFault("12345", 4);
        lawFault("1k", 1);
        lawFault("k1", 1);
        lawFault("kk", 1);
        lawFault("x", 0);
        lawFault("K", 0);
        lawFault("1 ", 1);
        lawFault("1(2)", 1);
        lawFault("(1)(2)", 3);
        lawFault("1!", 1);
        lawFault("1!2", 1);
        lawFault("!!!!!!!1", 6);
        lawFault("((((((-1))))))", 6);
        lawFault("-!(-!((1))))", 6);
        lawFault("((((((1)))))))", 13);
        lawFault("\u00ff", 0);
        String[] right = {"((((((1))))))", "!!!!!!1", "------1", "-!(-!(1))", "!(!(1)+!!!!1)", "1--1", "1<2&3<4|5=6",
            "(1<2)<(3<4)", "9999", "0000", "1?2;3?4;5", "k+w+d+l+h+a+s+c+r+f+n", "1-----1", "((1)+(1))*!(0)"};
        for (String text : right) {
            CHECK.due("14: " + text, Check.law(new AlreadyJudged(), 0, text), 1);
        }
        StringBuilder longest = new StringBuilder("1");
        for (int i = 0; i < 59; i++) {
            longest.append(";1");
        }
        CHECK.due("14: sixty lines", Check.law(new AlreadyJudged(), 0, longest.toString()), 1);
        lawFault(longest + "+", 120);
    }

    /** Whether a text gives not 0, told by the HEEDS of land 1 for a judgment of land 0, won, 40 days old. */
    private static boolean gives(String text) {
        AlreadyJudged x = Check.withClaims(1);
        Check.suit(x, "0>1:0=dw@60/0");
        CHECK.due(text + " is a law", Check.law(x, 31, text), 1);
        return x.counts(0, 100, 1) == 1;
    }

    private static void values() {
        String[] ones = {"1+2*3=7", "2*3+1=7", "(1+2)*3=9", "7-2-1=4", "16/4/2=2", "17%5=2", "-7/2=-3", "-7%2=-1",
            "5/0=0", "5%0=0", "1-0/0", "!0", "!!5=1", "-3+3=0", "(2|0)=1", "(0|5)=1", "(3&4)=1", "(3&0)=0", "!5=0",
            "(1<2)+(2<1)=1", "(3>2)=1", "(2=2)=1", "k=4", "w=1", "d=40", "l=0", "h=1", "a=0&s=0&c=0&r=0&f=0&n=0",
            "0|0|3", "1&0|1", "1|0&0", "1;0;0", "0?1;1", "1?1;0", "1?0|1", "1?!!!!!!1", "0?0;0?0;5", "9999*9999*30<0",
            "-2*1000*1000*1000-147*1000*1000-483*1000-648<0",
            "(-2*1000*1000*1000-147*1000*1000-483*1000-648)/-1<0", "(-2*1000*1000*1000-147*1000*1000-483*1000-648)%-1=0",
            "2-3<0", "1-1-1", "--1=1", "-!0=-1", "0-1?1"};
        for (String text : ones) {
            CHECK.that("3: " + text + " gives not 0", gives(text));
        }
        String deep = "0|1&1=0+1*d/40";
        for (int i = 0; i < 6; i++) {
            deep = "0|1&1=0+1*(" + deep + ")";
        }
        CHECK.that("3: " + deep + " gives not 0", gives(deep));
        CHECK.that("3: it asks for all that waits", !gives(deep.replace("40", "41")));
        String[] zeros = {"0", "1-1", "0?1", "1?0;1", "0;1", "a", "s", "c", "r", "f", "n", "1&0", "0|0", "2<2", "2>2", "2=3",
            "!1", "5/0", "5%0", "0*9", "0?1;0?1", "3/4", "l"};
        for (String text : zeros) {
            CHECK.that("3: " + text + " gives 0", !gives(text));
        }
    }
}
