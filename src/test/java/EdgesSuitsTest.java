/** Boundary cases of section 2 and of promises 9 to 13, sentence by sentence: THE TAPE, and SUITS as texts. */
public final class EdgesSuitsTest {
    private static final Edges EDGES = new Edges("EdgesSuitsTest");
    private static final String ALL_CLAIMS =
        "0,1,2,3,4,5,6,7,8,9,10,11,12,13,14,15,16,17,18,19,20,21,22,23,24,25,26,27,28,29,30,31";

    public static void main(String[] args) {
        howMany();
        people();
        claims();
        points();
        endings();
        daysAndLands();
        faultsOfNumbers();
        faultsOfSigns();
        textsThatEnd();
        undoneOnDays();
        feed();
        suit();
        ofSuit();
        won();
        undone();
        EDGES.end();
    }

    private static void howMany() {
        EDGES.edge("2. SUITS 0 .. 39, as they come",
            "claim 1 0 0", "suit 0>1:0=mw@7/0 = 0", "suit 0>1:0=mw@8/0 = 1", "37* suit 0>1:0=mw@1/0", "suit 0>1:0=mw@9/0 = 39",
            "count 2 = 40", "ofSuit 0 4 = 7", "ofSuit 1 4 = 8", "ofSuit 39 4 = 9", "ofSuit 40 4 = BAD");
        EDGES.edge("2. THE TAPE (at most 120 bytes): a text of all of them",
            "32* claim 1 0 0", "tape 0>1:" + ALL_CLAIMS + ";28+fn;29+fn;30+fn;31-fn=mw@1/0", "count 3 = 120", "suit = 0",
            "ofSuit 0 7 = 32", "ofSuit 0 8 = 4", "ofSuit 0 41 = 31", "ofSuit 0 81 = 14", "count 3 = 0");
        EDGES.edge("2. THE TAPE (at most 120 bytes): what no longer comes is missed",
            "32* claim 1 0 0", "tape 0>1:" + ALL_CLAIMS + ";28+fn;29+fn;30+fn;31-fn=mw@12/", "count 3 = 120", "feed 1 48 = FULL",
            "suit = -220");
    }

    private static void people() {
        EDGES.edge("2. PERSON: 1 or 2 digits",
            "claim 1 0 0", "suit 7>8:0=mw@1/0 = 0", "suit 07>08:0=mw@1/0 = 1", "suit 00>19:0=mw@1/0 = 2", "ofSuit 0 0 = 7",
            "ofSuit 0 1 = 8", "ofSuit 1 0 = 7", "ofSuit 1 1 = 8", "ofSuit 2 0 = 0", "ofSuit 2 1 = 19", "suit 007>8:0=mw@1/0 = -102",
            "suit 7>008:0=mw@1/0 = -104", "suit >8:0=mw@1/0 = -100", "suit 7>:0=mw@1/0 = -102");
        EDGES.edge("2. PERSON below 20",
            "claim 1 0 0", "suit 19>0:0=mw@1/0 = 0", "suit 0>19:0=mw@1/0 = 1", "suit 20>0:0=mw@1/0 = -100",
            "suit 0>20:0=mw@1/0 = -102", "suit 99>0:0=mw@1/0 = -100", "suit 0>99:0=mw@1/0 = -102");
        EDGES.edge("2. The second PERSON is another one",
            "claim 1 0 0", "suit 3>3:0=mw@1/0 = -102", "suit 3>03:0=mw@1/0 = -102", "suit 19>19:0=mw@1/0 = -103",
            "suit 0>0:0=mw@1/0 = -102", "suit 3>13:0=mw@1/0 = 0", "suit 1>19:0=mw@1/0 = 1");
    }

    private static void claims() {
        EDGES.edge("2. CLAIM: one that there is",
            "suit 0>1:0=mw@1/0 = -104", "claim 1 0 0", "suit 0>1:0=mw@1/0 = 0", "suit 0>1:1=mw@1/0 = -104", "claim 1 1 0",
            "suit 0>1:1=mw@1/0 = 1", "suit 0>1:0,2=mw@1/0 = -106", "suit 0>1:99=mw@1/0 = -104");
        EDGES.edge("2. CLAIM: 1 or 2 digits",
            "12* claim 1 0 0", "suit 0>1:00=mw@1/0 = 0", "suit 0>1:07,11=mw@1/0 = 1", "ofSuit 1 10 = 7", "ofSuit 1 11 = 11",
            "suit 0>1:011=mw@1/0 = -106", "suit 0>1:12=mw@1/0 = -104", "suit 0>1:=mw@1/0 = -104", "suit 0>1:0,=mw@1/0 = -106");
        EDGES.edge("2. CLAIM: one that there is: the last of all",
            "31* claim 1 0 0", "suit 0>1:31=mw@1/0 = -104", "claim 1 0 0", "suit 0>1:31=mw@1/0 = 0", "suit 0>1:32=mw@1/0 = -104");
        EDGES.edge("2. a CLAIM once",
            "12* claim 1 0 0", "suit 0>1:0,0=mw@1/0 = -106", "suit 0>1:0,00=mw@1/0 = -106", "suit 0>1:0,1,2,1=mw@1/0 = -110",
            "suit 0>1:11,1,10,0=mw@1/0 = 0", "suit 0>1:11,1,11=mw@1/0 = -109");
        EDGES.edge("2. a CLAIM once: all of them, and one more",
            "32* claim 1 0 0", "suit 0>1:" + ALL_CLAIMS + ",31=mw@1/0 = -190", "suit 0>1:" + ALL_CLAIMS + ",32=mw@1/0 = -190",
            "suit 0>1:" + ALL_CLAIMS + "=mw@1/0 = 0", "ofSuit 0 7 = 32");
    }

    private static void points() {
        EDGES.edge("2. POINT: 1 or 2 digits, below 32",
            "claim 1 0 0", "suit 0>1:0;0+;1+;05+;31+=mw@1/0 = 0", "ofSuit 0 8 = 4", "ofSuit 0 50 = 1", "ofSuit 0 55 = 1",
            "ofSuit 0 81 = 1", "suit 0>1:0;32+=mw@1/0 = -106", "suit 0>1:0;99+=mw@1/0 = -106", "suit 0>1:0;001+=mw@1/0 = -108",
            "suit 0>1:0;+=mw@1/0 = -106");
        EDGES.edge("2. a POINT once",
            "claim 1 0 0", "suit 0>1:0;3+;3+=mw@1/0 = -109", "suit 0>1:0;3+;3-=mw@1/0 = -109", "suit 0>1:0;3-;03+=mw@1/0 = -109",
            "suit 0>1:0;3+;4+;3+=mw@1/0 = -112", "suit 0>1:0;3+;30+;31-=mw@1/0 = 0");
        EDGES.edge("2. Behind a POINT: + (found so) or - (found not)",
            "claim 1 0 0", "suit 0>1:0;3+;4-=mw@1/0 = 0", "ofSuit 0 53 = 1", "ofSuit 0 54 = 2", "ofSuit 0 55 = 0",
            "suit 0>1:0;3=mw@1/0 = -107", "suit 0>1:0;3f=mw@1/0 = -107", "suit 0>1:0;3+-=mw@1/0 = -108",
            "suit 0>1:0;3++=mw@1/0 = -108");
        EDGES.edge("2. then perhaps f (fought), then perhaps n (needed)",
            "claim 1 0 0", "suit 0>1:0;0+f;1-n;2+fn;3-fn=mw@1/0 = 0", "ofSuit 0 50 = 5", "ofSuit 0 51 = 10", "ofSuit 0 52 = 13",
            "ofSuit 0 53 = 14", "suit 0>1:0;3+nf=mw@1/0 = -109", "suit 0>1:0;3+ff=mw@1/0 = -109", "suit 0>1:0;3+nn=mw@1/0 = -109",
            "suit 0>1:0;3+fnf=mw@1/0 = -110");
        EDGES.edge("2. { ; POINT }: none, one, and no CLAIM behind one",
            "2* claim 1 0 0", "suit 0>1:0=mw@1/0 = 0", "ofSuit 0 8 = 0", "suit 0>1:0;3+=mw@1/0 = 1", "ofSuit 1 8 = 1",
            "suit 0>1:0;3+,1=mw@1/0 = -108", "suit 0>1:0;=mw@1/0 = -106", "suit 0>1:;3+=mw@1/0 = -104");
    }

    private static void endings() {
        EDGES.edge("2. ENDING: m merits, f form, a agreed, d default",
            "claim 1 0 0", "suit 0>1:0=mw@1/0 = 0", "suit 0>1:0=fw@1/0 = 1", "suit 0>1:0=aw@1/0 = 2", "suit 0>1:0=dw@1/0 = 3",
            "ofSuit 0 2 = 1", "ofSuit 1 2 = 2", "ofSuit 2 2 = 3", "ofSuit 3 2 = 4", "suit 0>1:0=uw@1/0 = -106",
            "suit 0>1:0=Mw@1/0 = -106", "suit 0>1:0=w@1/0 = -106", "suit 0>1:0=mmw@1/0 = -107", "suit 0>1:0=1w@1/0 = -106");
        EDGES.edge("2. or p and a digit 1 .. 9",
            "9* claim 1 0 0", "suit 0>1:0=p1w@1/0 = 0", "ofSuit 0 2 = 6", "suit 0>1:0,1,2,3,4,5,6,7,8=p9w@1/0 = 1",
            "suit 0>1:0=p0w@1/0 = -107", "suit 0>1:0=pw@1/0 = -107", "suit 0>1:0=p = -107");
        EDGES.edge("2. or p and a digit: one digit alone",
            "12* claim 1 0 0", "suit 0>1:0,1,2,3,4,5,6,7,8,9,10,11=p12w@1/0 = -132", "suit 0>1:0,1=p01w@1/0 = -109");
        EDGES.edge("2. the first so many CLAIMS by merits, no more than there are",
            "3* claim 1 0 0", "suit 0>1:0=p2w@1/0 = -107", "suit 0>1:0,1=p2w@1/0 = 0", "suit 0>1:0,1=p3w@1/0 = -109",
            "suit 0>1:0,1,2=p3w@1/0 = 1", "suit 0>1:0,1,2=p9w@1/0 = -111");
        EDGES.edge("2. then w (won) or l (lost)",
            "claim 1 0 0", "suit 0>1:0=mw@1/0 = 0", "suit 0>1:0=ml@1/0 = 1", "ofSuit 0 3 = 1", "ofSuit 1 3 = 0",
            "suit 0>1:0=m@1/0 = -107", "suit 0>1:0=mwl@1/0 = -108", "suit 0>1:0=mlw@1/0 = -108", "suit 0>1:0=mx@1/0 = -107",
            "suit 0>1:0=p1@1/0 = -108");
    }

    private static void daysAndLands() {
        EDGES.edge("2. DAY 1 to 4 digits",
            "claim 1 0 0", "suit 0>1:0=mw@0/0 = 0", "suit 0>1:0=mw@12/0 = 1", "suit 0>1:0=mw@123/0 = 2", "suit 0>1:0=mw@9999/0 = 3",
            "suit 0>1:0=mw@0007/0 = 4", "ofSuit 0 4 = 0", "ofSuit 1 4 = 12", "ofSuit 2 4 = 123", "ofSuit 3 4 = 9999", "ofSuit 4 4 = 7",
            "suit 0>1:0=mw@/0 = -109", "suit 0>1:0=mw@10000/0 = -113", "suit 0>1:0=mw@00001/0 = -113", "suit 0>1:0=mw@-1/0 = -109");
        EDGES.edge("2. LAND a digit 0 .. 7",
            "claim 1 0 0", "suit 0>1:0=mw@1/0 = 0", "suit 0>1:0=mw@1/7 = 1", "ofSuit 0 5 = 0", "ofSuit 1 5 = 7",
            "suit 0>1:0=mw@1/8 = -111", "suit 0>1:0=mw@1/9 = -111", "suit 0>1:0=mw@1/ = -111", "suit 0>1:0=mw@1/00 = -112",
            "suit 0>1:0=mw@1 = -110");
        EDGES.edge("2. No blanks",
            "claim 1 0 0", "suit  0>1:0=mw@1/0 = -100", "suit 0 >1:0=mw@1/0 = -101", "suit 0> 1:0=mw@1/0 = -102",
            "suit 0>1: 0=mw@1/0 = -104", "suit 0>1:0 =mw@1/0 = -105", "suit 0>1:0=mw @1/0 = -108", "suit 0>1:0=mw@1/0  = -112");
    }

    private static void faultsOfNumbers() {
        EDGES.edge("2. FAULT: a number is judged when as many digits as may be: at its first digit",
            "9* claim 1 0 0", "suit 20 = -100", "suit 201 = -100", "suit 3>20 = -102", "suit 3>33 = -102", "suit 3>03 = -102",
            "suit 0>1:09 = -104", "suit 0>1:10 = -104", "suit 0>1:0,00 = -106", "suit 0>1:0;32 = -106", "suit 0>1:0;32+ = -106",
            "suit 0>1:0;3+;03 = -109");
        EDGES.edge("2. FAULT: a number is judged when a byte that is none has come: at its first digit",
            "9* claim 1 0 0", "suit 3>3: = -102", "suit 3>3x = -102", "suit 0>1:9, = -104", "suit 0>1:9x = -104",
            "suit 0>1:0,0; = -106", "suit 0>1:0;3+;3+ = -109", "suit 0>1:0;3+;3x = -109");
        EDGES.edge("2. FAULT: a number is judged when the end has come: at its first digit",
            "9* claim 1 0 0", "suit 3>3 = -102", "suit 0>1:9 = -104", "suit 0>1:0,0 = -106", "suit 0>1:0;3+;3 = -109",
            "suit 0>1:0=p2 = -107", "suit 0>1:0=mw@1/8 = -111");
        EDGES.edge("2. FAULT: a number that is as said goes on",
            "9* claim 1 0 0", "suit 3 = -101", "suit 3x = -101", "suit 19 = -102", "suit 190 = -102", "suit 3>1 = -103", "suit 3>13 = -104",
            "suit 0>1:8 = -105", "suit 0>1:08 = -106", "suit 0>1:080 = -106", "suit 0>1:0;3 = -107", "suit 0>1:0;31 = -108",
            "suit 0>1:0;311 = -108", "suit 0>1:0=mw@1234 = -113", "suit 0>1:0=mw@12345 = -113");
    }

    private static void faultsOfSigns() {
        EDGES.edge("2. FAULT: the place (from 0) of the first byte with which no text goes on",
            "2* claim 1 0 0", "suit x>1:0=mw@1/0 = -100", "suit 0x1:0=mw@1/0 = -101", "suit 0>x:0=mw@1/0 = -102",
            "suit 0>1x0=mw@1/0 = -103", "suit 0>1:x=mw@1/0 = -104", "suit 0>1:0xmw@1/0 = -105", "suit 0>1:0=xw@1/0 = -106",
            "suit 0>1:0=mx@1/0 = -107", "suit 0>1:0=mwx1/0 = -108", "suit 0>1:0=mw@x/0 = -109", "suit 0>1:0=mw@1x0 = -110",
            "suit 0>1:0=mw@1/x = -111", "suit 0>1:0=mw@1/0x = -112");
        EDGES.edge("2. FAULT: the first of several",
            "claim 1 0 0", "suit 20>20:9=xx@x/9 = -100", "suit 0>0:9=xx@x/9 = -102", "suit 0>1:9=xx@x/9 = -104",
            "suit 0>1:0=p9x@x/9 = -107", "suit 0>1:0=mw@1/9x = -111");
        EDGES.edge("2. FAULT: signs of another place are none",
            "2* claim 1 0 0", "suit 0:1 = -101", "suit 0>1>0 = -103", "suit 0>1,0 = -103", "suit 0>1:0:1 = -105", "suit 0>1:0@1 = -105",
            "suit 0>1:0=mw/0 = -108", "suit 0>1:0=mw@1@0 = -110", "suit 0>1:0;3=mw@1/0 = -107", "suit 0>1:0,1,;3+=mw@1/0 = -108");
        EDGES.edge("2. FAULT: bytes 0 and 128 to 255",
            "claim 1 0 0", "suit \0 = -100", "suit \u0080 = -100", "suit \u00ff = -100", "suit \u00b0>1:0=mw@1/0 = -100",
            "suit 0\u00be1:0=mw@1/0 = -101", "suit 0>1:0=mw@1/0\0 = -112", "suit 0>1:0=mw@1/0\u00ff = -112", "feed 1 304 = 1",
            "suit = -101");
    }

    private static void textsThatEnd() {
        String whole = "0>1:0,1;31-fn=p2l@9999/7";
        for (int i = 1; i < whole.length(); i++) {
            EDGES.edge("2. FAULT: the length, if it ends too early: behind " + whole.substring(0, i), "2* claim 1 0 0",
                "suit " + whole.substring(0, i) + " = " + (-100 - i), "count 2 = 0", "count 3 = 0");
        }
        EDGES.edge("2. FAULT: the length, if it ends too early: no text", "suit = -100", "count 2 = 0");
        EDGES.edge("2. FAULT: a text that does not end too early", "2* claim 1 0 0", "suit " + whole + " = 0",
            "suit " + whole + "0 = -124");
    }

    private static void undoneOnDays() {
        EDGES.edge("2. A SUIT that is UNDONE from a DAY on is of KIND 5 on those DAYS",
            "claim 1 0 0", "suit 0>1:0=mw@50/0", "law 0 k=5", "law 1 k=1", "undone 0 60", "met 0 -1 590 = NOT", "met 0 -1 591 = 0",
            "met 0 -1 600 = 0", "met 0 -1 601 = NOT", "met 0 -1 99990 = 0", "met 0 -1 500 = NOT", "met 0 -1 501 = 0");
        EDGES.edge("2. UNDONE from a DAY on: its own DAY, DAY 0, DAY 9999",
            "claim 1 0 0", "law 0 k=5", "suit 0>1:0=mw@0/0", "undone 0 0 = 1", "met 0 -1 0 = 0", "undo", "undone 0 9999 = 1",
            "met 0 -1 99980 = NOT", "met 0 -1 99990 = 0");
        EDGES.edge("2. (as a BODY from the call on)",
            "2* claim 1 0 0", "suit 0>1:0,1=p1w@50/0", "ofSuit 0 2 = 6", "act 0 0 5 = 7", "undone 0 9999", "ofSuit 0 2 = 5",
            "act 0 0 5 = 12", "undo", "ofSuit 0 2 = 6", "act 0 0 5 = 7");
    }

    private static void feed() {
        EDGES.edge("Promise 9: n (1 .. 4) bytes",
            "feed 0 49 = BAD", "feed 5 49 = BAD", "feed -1 49 = BAD", "feed MIN 49 = BAD", "feed MAX 49 = BAD", "count 3 = 0",
            "feed 1 49 = 1", "feed 2 0 = 3", "feed 3 0 = 6", "feed 4 0 = 10");
        EDGES.edge("Promise 9: the lowest of v first",
            "claim 1 0 0", "feed 4 0x3a313e30 = 4", "feed 3 0x2b6d3d30 = 7", "feed 1 0x77 = 8", "feed 2 0x3140 = 10",
            "feed 2 0x302f = 12", "suit = 0", "ofSuit 0 0 = 0", "ofSuit 0 1 = 1");
        EDGES.edge("Promise 9: n bytes of v and no more",
            "feed 1 0x31313131 = 1", "count 3 = 1", "feed 2 0x3131312b = 3", "law 0 = 1", "feed 1 -1 = 1", "law 0 = -100",
            "feed 4 -1 = 4", "law 0 = -100");
        EDGES.edge("Promise 9: how many it has; FULL",
            "29* feed 4 0", "feed 3 0 = 119", "feed 2 0 = FULL", "feed 4 0 = FULL", "count 3 = 119", "feed 1 0 = 120",
            "feed 1 0 = FULL", "count 3 = 120");
        EDGES.edge("Promise 9: BAD, ahead of FULL", "30* feed 4 0", "feed 0 0 = BAD", "feed 5 0 = BAD", "feed 1 0 = FULL");
        EDGES.edge("Promise 9: FULL: none of the bytes comes",
            "29* feed 4 0x31313131", "feed 2 0x3131 = 118", "feed 3 0 = FULL", "feed 2 0x3131 = 120", "law 0 = -104");
    }

    private static void suit() {
        EDGES.edge("Promise 10: THE TAPE becomes a SUIT: its number; THE TAPE is empty then",
            "claim 1 0 0", "suit 0>1:0=mw@1/0 = 0", "count 3 = 0", "suit = -100", "suit 0>1:0=mw@1/0 = 1", "count 2 = 2");
        EDGES.edge("Promise 10: -100 less its FAULT; THE TAPE is empty then (by a FAULT, too)",
            "claim 1 0 0", "suit 0>1:0=mw@1/8 = -111", "count 3 = 0", "count 2 = 0", "suit = -100", "suit 0>1:0=mw@1/0 = 0");
        EDGES.edge("Promise 10: FULL (ahead of all; THE TAPE stays)",
            "claim 1 0 0", "40* suit 0>1:0=mw@1/0", "suit = FULL", "tape x", "suit = FULL", "count 3 = 1", "law 0 = -100",
            "tape 0>1:0=mw@1/0", "suit = FULL", "count 3 = 12", "count 2 = 40");
        EDGES.edge("Promise 10: a SUIT that a FAULT ended leaves nothing behind",
            "2* claim 1 0 0", "suit 2>3:0,1;3+fn;4-fn=p2l@9/9 = -124", "suit 0>1:0=mw@1/0 = 0", "ofSuit 0 0 = 0", "ofSuit 0 1 = 1",
            "ofSuit 0 2 = 1", "ofSuit 0 7 = 1", "ofSuit 0 8 = 0", "ofSuit 0 53 = 0");
        EDGES.edge("Promise 10: a SUIT that a FAULT ended leaves nothing to one of like CLAIMS and POINTS",
            "2* claim 1 0 0", "suit 0>1:0,1;3+fn;4-fn=p2l@9/9 = -124", "suit 0>1:1;4+;3-=ml@1/0 = 0", "ofSuit 0 7 = 1",
            "ofSuit 0 10 = 1", "ofSuit 0 11 = BAD", "ofSuit 0 8 = 2", "ofSuit 0 53 = 2", "ofSuit 0 54 = 1", "lost 0 -1 = 1",
            "lost 0 0 = 0");
        EDGES.edge("Promise 10: SUITS keep what was told of each, whatever FAULTS come between",
            "2* claim 1 0 0", "suit 0>1:0;3+f=mw@5/1 = 0", "suit 7>8:1;4-n=fl@6/8 = -115", "suit 2>3:1;5-n=al@7/2 = 1",
            "suit 9>9:0 = -102", "suit = -100", "ofSuit 0 0 = 0", "ofSuit 0 1 = 1", "ofSuit 0 2 = 1", "ofSuit 0 3 = 1", "ofSuit 0 4 = 5",
            "ofSuit 0 5 = 1", "ofSuit 0 10 = 0", "ofSuit 0 53 = 5", "ofSuit 0 54 = 0", "ofSuit 0 55 = 0", "ofSuit 1 0 = 2",
            "ofSuit 1 1 = 3", "ofSuit 1 2 = 3", "ofSuit 1 3 = 0", "ofSuit 1 4 = 7", "ofSuit 1 5 = 2", "ofSuit 1 10 = 1", "ofSuit 1 8 = 1",
            "ofSuit 1 55 = 10");
    }

    private static void ofSuit() {
        EDGES.edge("Promise 11: Of a SUIT: 0 who, .. 8 how many POINTS",
            "3* claim 1 0 0", "suit 18>7:2,0;31-f=p1l@4321/6", "ofSuit 0 0 = 18", "ofSuit 0 1 = 7", "ofSuit 0 2 = 6", "ofSuit 0 3 = 0",
            "ofSuit 0 4 = 4321", "ofSuit 0 5 = 6", "ofSuit 0 6 = -1", "ofSuit 0 7 = 2", "ofSuit 0 8 = 1", "ofSuit 0 9 = BAD",
            "ofSuit 0 -1 = BAD");
        EDGES.edge("Promise 11: 6 UNDONE from (-1)",
            "claim 1 0 0", "suit 0>1:0=mw@0/0", "ofSuit 0 6 = -1", "undone 0 0", "ofSuit 0 6 = 0", "undo", "ofSuit 0 6 = -1",
            "undone 0 9999", "ofSuit 0 6 = 9999");
        EDGES.edge("Promise 11: 10 and i: the i-th CLAIM",
            "3* claim 1 0 0", "suit 0>1:2,0=mw@1/0", "ofSuit 0 10 = 2", "ofSuit 0 11 = 0", "ofSuit 0 12 = BAD", "ofSuit 0 9 = BAD",
            "ofSuit 0 49 = BAD");
        EDGES.edge("Promise 11: 10 and i: the i-th CLAIM: the last of all",
            "32* claim 1 0 0", "suit 0>1:" + ALL_CLAIMS + "=mw@1/0", "ofSuit 0 10 = 0", "ofSuit 0 41 = 31", "ofSuit 0 42 = BAD");
        EDGES.edge("Promise 11: 50 and POINT: 0 not found, 1 so, 2 not, and 4 if fought, 8 if needed",
            "claim 1 0 0", "suit 0>1:0;0+;1-;2+f;3-f;4+n;5-n;30+fn;31-fn=mw@1/0", "ofSuit 0 50 = 1", "ofSuit 0 51 = 2", "ofSuit 0 52 = 5",
            "ofSuit 0 53 = 6", "ofSuit 0 54 = 9", "ofSuit 0 55 = 10", "ofSuit 0 80 = 13", "ofSuit 0 81 = 14", "ofSuit 0 56 = 0",
            "ofSuit 0 79 = 0", "ofSuit 0 82 = BAD", "ofSuit 0 8 = 8");
        EDGES.edge("Promise 11: BAD",
            "ofSuit 0 0 = BAD", "claim 1 0 0", "suit 0>1:0=mw@1/0", "ofSuit -1 0 = BAD", "ofSuit 1 0 = BAD", "ofSuit 40 0 = BAD",
            "ofSuit MIN 0 = BAD", "ofSuit MAX 0 = BAD", "ofSuit 0 MIN = BAD", "ofSuit 0 MAX = BAD", "ofSuit 0 -10 = BAD");
    }

    private static void won() {
        EDGES.edge("Promise 12: WON of a SUIT becomes v (1, 0): what it was",
            "claim 1 0 0", "suit 0>1:0=mw@1/0", "suit 0>1:0=ml@1/0", "won 0 1 = 1", "won 0 0 = 1", "won 0 0 = 0", "ofSuit 0 3 = 0",
            "won 1 0 = 0", "won 1 1 = 0", "won 1 1 = 1", "ofSuit 1 3 = 1", "ofSuit 0 3 = 0");
        EDGES.edge("Promise 12: BAD",
            "won 0 0 = BAD", "claim 1 0 0", "suit 0>1:0=mw@1/0", "won 0 -1 = BAD", "won 0 2 = BAD", "won 0 MIN = BAD", "won 0 MAX = BAD",
            "won -1 0 = BAD", "won 1 0 = BAD", "won MIN 0 = BAD", "won MAX 0 = BAD", "ofSuit 0 3 = 1", "count 5 = 0");
    }

    private static void undone() {
        EDGES.edge("Promise 13: A SUIT is UNDONE from a DAY on: 1",
            "claim 1 0 0", "suit 0>1:0=mw@50/0", "suit 0>1:0=mw@50/0", "undone 1 60 = 1", "ofSuit 1 6 = 60", "ofSuit 0 6 = -1",
            "undone 0 9999 = 1");
        EDGES.edge("Promise 13: BAD (ahead of its own)",
            "claim 1 0 0", "suit 0>1:0=mw@50/0", "undone 0 49 = BAD", "undone 0 0 = BAD", "ofSuit 0 6 = -1", "count 5 = 0",
            "undone 0 50 = 1", "ofSuit 0 6 = 50");
        EDGES.edge("Promise 13: BAD",
            "undone 0 0 = BAD", "claim 1 0 0", "suit 0>1:0=mw@0/0", "undone 0 -1 = BAD", "undone 0 10000 = BAD", "undone 0 MIN = BAD",
            "undone 0 MAX = BAD", "undone -1 0 = BAD", "undone 1 0 = BAD", "undone MIN 0 = BAD", "undone MAX 0 = BAD", "undone 0 0 = 1");
        EDGES.edge("Promise 13: NOT: it is",
            "claim 1 0 0", "suit 0>1:0=mw@0/0", "undone 0 0 = 1", "undone 0 0 = NOT", "undone 0 9999 = NOT", "ofSuit 0 6 = 0",
            "count 5 = 1", "undo = 0", "undone 0 9999 = 1");
        EDGES.edge("Promise 13: BAD, ahead of NOT",
            "claim 1 0 0", "suit 0>1:0=mw@50/0", "undone 0 60", "undone 0 49 = BAD", "undone 0 10000 = BAD", "undone 0 70 = NOT");
    }
}
