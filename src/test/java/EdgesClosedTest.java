/** Boundary cases of what is CLOSED: sections 3 and 4, and promises 15 to 21, sentence by sentence. */
public final class EdgesClosedTest {
    private static final Edges EDGES = new Edges("EdgesClosedTest");

    public static void main(String[] args) {
        counts();
        closed();
        closedByShoes();
        metBy();
        met();
        points();
        pointsFoundBothWays();
        point();
        left();
        lost();
        opens();
        clash();
        EDGES.end();
    }

    private static void counts() {
        EDGES.edge("3. A judgment COUNTS in LAND h on DAY d: its DAY is d or ahead",
            "claim 1 0 0", "suit 0>1:0=mw@50/0", "counts 0 49 0 = 0", "counts 0 50 0 = 1", "counts 0 51 0 = 1", "counts 0 9999 0 = 1",
            "counts 0 0 0 = 0", "counts 0 49 1 = 0", "counts 0 50 1 = 1");
        EDGES.edge("3. A judgment COUNTS: its DAY is d or ahead: DAYS 0 and 9999",
            "claim 1 0 0", "suit 0>1:0=mw@0/0", "suit 0>1:0=mw@9999/0", "counts 0 0 0 = 1", "counts 1 9998 0 = 0", "counts 1 9999 0 = 1");
        EDGES.edge("3. A judgment COUNTS: it is of LAND h, or HEEDS of h gives not 0",
            "claim 1 0 0", "suit 0>1:0=mw@50/2", "law 32 0", "law 33 0", "law 34 -1", "law 37 9999", "counts 0 50 2 = 1", "counts 0 50 3 = 0",
            "counts 0 50 4 = 1", "counts 0 50 7 = 1", "counts 0 49 4 = 0");
        EDGES.edge("Promise 15: Whether a SUIT COUNTS in a LAND on a DAY (1, 0). BAD",
            "counts 0 0 0 = BAD", "claim 1 0 0", "suit 0>1:0=mw@0/0", "counts -1 0 0 = BAD", "counts 1 0 0 = BAD", "counts MIN 0 0 = BAD",
            "counts MAX 0 0 = BAD", "counts 0 -1 0 = BAD", "counts 0 10000 0 = BAD", "counts 0 MIN 0 = BAD", "counts 0 MAX 0 = BAD",
            "counts 0 0 -1 = BAD", "counts 0 0 8 = BAD", "counts 0 0 MIN = BAD", "counts 0 0 MAX = BAD", "counts 0 0 7 = 1", "counts 0 9999 0 = 1");
    }

    private static void closed() {
        EDGES.edge("3. CLOSED: a CLAIM of p against q (any PERSONS, by the CLAIM's FACT and PLEA)",
            "claim 1 3 1", "claim 203 3 2", "claim 405 4 1", "suit 0>1:0=mw@1/0", "met 1 -1 10 = NOT", "met 1 1 10 = 0", "met 2 1 10 = NOT",
            "law 0 s", "met 2 1 10 = 0", "met 1 1 10 = NOT", "met 0 203 10 = NOT");
        EDGES.edge("3. CLOSED: by a SUIT that COUNTS",
            "claim 1 0 0", "suit 0>1:0=mw@50/1", "met 0 -1 490 = NOT", "met 0 -1 500 = 0", "law 30 0", "met 0 -1 500 = NOT", "met 0 -1 501 = 0",
            "met 0 -1 502 = 0");
        EDGES.edge("3. CLOSED: of which p is BOUND as the one side and q as the other one: both of them",
            "claim 1 0 0", "suit 0>1:0=mw@1/0", "met 0 1 10 = 0", "met 0 2 10 = NOT", "met 0 201 10 = NOT", "met 0 203 10 = NOT", "met 0 0 10 = NOT",
            "met 0 101 10 = NOT");
        EDGES.edge("3. CLOSED: who sued is p: r 0; who was sued is p: r 1",
            "claim 1 0 0", "suit 0>1:0=mw@1/0", "law 0 r=0", "met 0 1 10 = 0", "met 0 100 10 = NOT", "law 0 r=1", "met 0 1 10 = NOT",
            "met 0 100 10 = 0");
        EDGES.edge("3. CLOSED: r 0 first, then r 1, where p and q are BOUND both ways",
            "claim 1 0 0", "suit 0>1:0=mw@1/0", "shoe 0 1 1 0", "shoe 1 0 1 0", "law 0 r=0", "met 0 1 10 = 0", "met 0 100 10 = 0", "law 0 r=1",
            "met 0 1 10 = 0", "met 0 100 10 = 0", "met 0 0 10 = 0", "law 0 r>1", "met 0 1 10 = NOT");
        EDGES.edge("3. CLOSED: for some of whose CLAIMS (those asked, in order; a first that does)",
            "claim 1 3 1", "claim 1 4 2", "claim 1 5 3", "claim 1 5 2", "suit 0>1:0,1,2=mw@1/0", "law 0 a&s", "met 0 -1 10 = 0",
            "met 1 -1 10 = 0", "met 2 -1 10 = 0", "met 3 -1 10 = NOT", "law 0 a&!s", "met 3 -1 10 = 0", "met 2 -1 10 = NOT",
            "law 0 !a&s", "met 3 -1 10 = 0");
        EDGES.edge("3. CLOSED: CLOSES of h gives not 0",
            "claim 1 0 0", "suit 0>1:0=mw@1/0", "law 1 -1", "law 2 0", "law 3 9999", "law 4 h=4", "law 5 h=4", "met 0 -1 10 = 0",
            "met 0 -1 11 = 0", "met 0 -1 12 = NOT", "met 0 -1 13 = 0", "met 0 -1 14 = 0", "met 0 -1 15 = NOT");
        EDGES.edge("3. CLOSED: c: it is the same CLAIM, whoever p and q are",
            "2* claim 1 0 0", "shoe 5 0 1 0", "suit 0>1:0=mw@1/0", "law 0 c", "met 0 501 10 = 0", "met 1 501 10 = NOT", "met 0 105 10 = 0");
    }

    private static void closedByShoes() {
        EDGES.edge("3. CLOSED: p is BOUND (by BINDS of h)",
            "claim 1 0 0", "suit 0>1:0=mw@1/0", "shoe 5 0 1 60", "met 0 501 590 = NOT", "met 0 501 600 = 0", "law 21 0", "met 0 501 601 = NOT",
            "met 0 1 601 = 0", "met 0 501 602 = 0");
        EDGES.edge("3. CLOSED: and q as the other one",
            "claim 1 0 0", "suit 0>1:0=mw@1/0", "shoe 5 1 1 60", "met 0 5 590 = NOT", "met 0 5 600 = 0", "met 0 500 600 = 0", "met 0 501 600 = NOT");
        EDGES.edge("3. CLOSED: by rows of 6 SHOES on either side, and no longer ones",
            "claim 1 0 0", "suit 0>1:0=mw@1/0", "law 20 1", "shoe 2 0 1 0", "shoe 3 2 1 0", "shoe 4 3 1 0", "shoe 5 4 1 0", "shoe 6 5 1 0",
            "shoe 7 6 1 0", "shoe 8 7 1 0", "shoe 12 1 1 0", "shoe 13 12 1 0", "shoe 14 13 1 0", "shoe 15 14 1 0", "shoe 16 15 1 0",
            "shoe 17 16 1 0", "shoe 18 17 1 0", "met 0 717 10 = 0", "met 0 1707 10 = 0", "met 0 817 10 = NOT", "met 0 718 10 = NOT");
        EDGES.edge("3. CLOSED: on the DAY on which it is asked, not on the judgment's",
            "claim 1 0 0", "shoe 5 0 1 60", "suit 0>1:0=mw@50/0", "met 0 501 500 = NOT", "met 0 501 600 = 0", "moveShoe 0 50", "met 0 501 500 = 0");
    }

    private static void metBy() {
        EDGES.edge("3. MET BY: the least SUIT's number",
            "claim 1 0 0", "suit 0>1:0=fw@1/0", "suit 0>1:0=mw@30/0", "suit 0>1:0=mw@10/0", "suit 0>1:0=mw@20/0", "met 0 -1 90 = NOT",
            "met 0 -1 100 = 2", "met 0 -1 200 = 2", "met 0 -1 300 = 1", "undone 1 30", "met 0 -1 300 = 2");
        EDGES.edge("3. MET BY: SUITS 0 and 39",
            "claim 1 0 0", "suit 0>1:0=fw@1/0", "38* suit 0>1:0=fw@1/0", "suit 0>1:0=mw@1/0", "met 0 -1 10 = 39", "law 0 1", "met 0 -1 10 = 0");
    }

    private static void met() {
        EDGES.edge("Promise 16: the SUIT that closes a CLAIM of p against q (pq -1: as told)",
            "claim 203 0 0", "suit 2>3:0=mw@1/0", "met 0 -1 10 = 0", "met 0 203 10 = 0", "met 0 302 10 = 0", "met 0 1 10 = NOT", "met 0 0 10 = NOT",
            "met 0 1919 10 = NOT");
        EDGES.edge("Promise 16: pq 0 is PERSON 0 against itself, not as told",
            "claim 100 0 0", "suit 1>0:0=mw@1/0", "met 0 -1 10 = 0", "met 0 0 10 = NOT", "claim 1 0 0", "met 1 0 10 = NOT");
        EDGES.edge("Promise 16: BAD, ahead of NOT: the CLAIM",
            "met 0 -1 10 = BAD", "claim 1 0 0", "met 1 -1 10 = BAD", "met -1 -1 10 = BAD", "met 32 -1 10 = BAD", "met MIN -1 10 = BAD",
            "met MAX -1 10 = BAD", "met 0 -1 10 = NOT");
        EDGES.edge("Promise 16: BAD, ahead of NOT: pq",
            "claim 1 0 0", "met 0 -2 10 = BAD", "met 0 -100 10 = BAD", "met 0 20 10 = BAD", "met 0 2000 10 = BAD", "met 0 1920 10 = BAD",
            "met 0 2019 10 = BAD", "met 0 MIN 10 = BAD", "met 0 MAX 10 = BAD", "met 0 1919 10 = NOT");
        EDGES.edge("Promise 16: BAD, ahead of NOT: dl: 10 times the DAY and the LAND",
            "claim 1 0 0", "met 0 -1 -1 = BAD", "met 0 -1 8 = BAD", "met 0 -1 9 = BAD", "met 0 -1 99998 = BAD", "met 0 -1 99999 = BAD",
            "met 0 -1 100000 = BAD", "met 0 -1 MIN = BAD", "met 0 -1 MAX = BAD", "met 0 -1 0 = NOT", "met 0 -1 99997 = NOT");
        EDGES.edge("Promise 16: NOT: it is open",
            "claim 1 0 0", "met 0 -1 99997 = NOT", "suit 0>1:0=mw@9999/7", "met 0 -1 99987 = NOT", "met 0 -1 99997 = 0");
        EDGES.edge("Promise 16: dl: 10 times the DAY and the LAND",
            "claim 1 0 0", "suit 0>1:0=mw@123/4", "law 34 0", "law 0 0", "law 3 0", "met 0 -1 1224 = NOT", "met 0 -1 1234 = 0",
            "met 0 -1 1233 = NOT", "met 0 -1 1235 = 0");
    }

    private static void points() {
        EDGES.edge("3. A POINT is CLOSED by a SUIT that COUNTS",
            "claim 1 0 0", "suit 0>1:0;3+fn=mw@50/1", "point 3 1 490 0 = 0", "point 3 1 500 0 = 1", "law 30 0", "point 3 1 500 0 = 0",
            "point 3 1 501 0 = 1");
        EDGES.edge("3. A POINT is CLOSED by a SUIT in which it was found",
            "claim 1 0 0", "law 10 1", "suit 0>1:0;0+;31-=mw@1/0", "point 0 1 10 0 = 1", "point 31 1 10 0 = 2", "point 1 1 10 0 = 0",
            "point 30 1 10 0 = 0");
        EDGES.edge("3. A POINT: p, q BOUND as its sides (either way round)",
            "claim 1 0 0", "shoe 5 0 1 60", "shoe 6 1 1 70", "suit 0>1:0;3+fn=mw@50/0", "point 3 1 500 0 = 1", "point 3 100 500 0 = 1",
            "point 3 501 590 0 = 0", "point 3 501 600 0 = 1", "point 3 105 600 0 = 1", "point 3 506 690 0 = 0", "point 3 506 700 0 = 1",
            "point 3 605 700 0 = 1", "point 3 500 700 0 = 0", "point 3 0 700 0 = 0", "point 3 2 700 0 = 0", "law 27 0", "point 3 506 707 0 = 0");
        EDGES.edge("3. A POINT: and SETTLES gives not 0",
            "claim 1 0 0", "suit 0>1:0;3+=mw@1/0", "point 3 1 10 0 = 0", "law 11 -1", "law 12 9999", "law 13 0", "point 3 1 11 0 = 1",
            "point 3 1 12 0 = 1", "point 3 1 13 0 = 0", "law 14 h=4", "point 3 1 14 0 = 1");
        EDGES.edge("3. A POINT is CLOSED: so, or not",
            "claim 1 0 0", "suit 0>1:0;3+fn;4-fn=mw@1/0", "point 3 1 10 0 = 1", "point 4 1 10 0 = 2", "point 3 1 10 1 = 0", "point 4 1 10 1 = 0");
    }

    private static void pointsFoundBothWays() {
        EDGES.edge("3. BOTH: by some so and by some not",
            "claim 1 0 0", "suit 0>1:0;3+fn=mw@10/0", "suit 0>1:0;3+fn=mw@20/0", "suit 0>1:0;3-fn=mw@30/0", "point 3 1 100 1 = 0",
            "point 3 1 200 1 = 0", "point 3 1 290 1 = 0", "point 3 1 300 1 = 1", "point 3 1 290 0 = 1", "point 3 1 300 0 = 2");
        EDGES.edge("3. BOTH: by those alone that close it",
            "claim 1 0 0", "suit 0>1:0;3+fn=mw@10/0", "suit 0>1:0;3-f=mw@20/0", "suit 0>2:0;3-fn=mw@20/0", "point 3 1 990 1 = 0",
            "point 3 1 990 0 = 1", "point 3 2 990 0 = 2", "law 10 f", "point 3 1 990 1 = 1", "point 3 1 990 0 = 2");
        EDGES.edge("3. BOTH: then the latest judgment counts",
            "claim 1 0 0", "suit 0>1:0;3+fn=mw@30/0", "suit 0>1:0;3-fn=mw@20/0", "suit 0>1:0;3-fn=mw@10/0", "point 3 1 200 0 = 2",
            "point 3 1 300 0 = 1", "point 3 1 300 1 = 1", "point 3 1 100 1 = 0");
        EDGES.edge("3. BOTH: of like DAYS the greater number",
            "claim 1 0 0", "suit 0>1:0;3+fn;4-fn=mw@30/0", "suit 0>1:0;3-fn;4+fn=mw@30/0", "point 3 1 300 0 = 2", "point 4 1 300 0 = 1",
            "suit 1>0:0;3+fn;4-fn=mw@29/0", "point 3 1 300 0 = 2", "point 4 1 300 0 = 1", "suit 1>0:0;3+fn;4-fn=mw@30/0",
            "point 3 1 300 0 = 1", "point 4 1 300 0 = 2");
        EDGES.edge("3. BOTH: the latest on DAY 0",
            "claim 1 0 0", "suit 0>1:0;3+fn=mw@0/0", "point 3 1 0 0 = 1", "suit 0>1:0;3-fn=mw@0/0", "point 3 1 0 0 = 2", "point 3 1 0 1 = 1");
    }

    private static void point() {
        EDGES.edge("Promise 17: 0 open, 1 so, 2 not (what 0), BOTH (1: 1, 0)",
            "point 3 1 0 0 = 0", "point 3 1 0 1 = 0", "claim 1 0 0", "suit 0>1:0;3+fn;4-fn=mw@0/0", "point 3 1 0 0 = 1", "point 4 1 0 0 = 2",
            "point 5 1 0 0 = 0", "point 5 1 0 1 = 0");
        EDGES.edge("Promise 17: BAD: the POINT, what",
            "point 0 1 0 0 = 0", "point 31 1 0 0 = 0", "point -1 1 0 0 = BAD", "point 32 1 0 0 = BAD", "point MIN 1 0 0 = BAD",
            "point MAX 1 0 0 = BAD", "point 0 1 0 -1 = BAD", "point 0 1 0 2 = BAD", "point 0 1 0 MIN = BAD", "point 0 1 0 MAX = BAD");
        EDGES.edge("Promise 17: BAD: pq",
            "point 0 -1 0 0 = BAD", "point 0 -2 0 0 = BAD", "point 0 20 0 0 = BAD", "point 0 2000 0 0 = BAD", "point 0 1919 0 0 = 0",
            "point 0 1920 0 0 = BAD", "point 0 MIN 0 0 = BAD", "point 0 MAX 0 0 = BAD");
        EDGES.edge("Promise 17: BAD: dl",
            "point 0 1 -1 0 = BAD", "point 0 1 8 0 = BAD", "point 0 1 9 0 = BAD", "point 0 1 99997 0 = 0", "point 0 1 99998 0 = BAD",
            "point 0 1 100000 0 = BAD", "point 0 1 MIN 0 = BAD", "point 0 1 MAX 0 = BAD");
    }

    private static void left() {
        EDGES.edge("4. LEFT on d in h: CLAIMS (as told: of their PERSONS) that are not CLOSED",
            "claim 1 0 0", "claim 1 1 0", "claim 203 0 0", "claim 100 0 1", "left 100 -1 = 4", "suit 0>1:0=mw@10/0", "left 90 -1 = 4",
            "left 100 -1 = 2", "left 100 0 = 1", "left 100 1 = 2", "law 30 0", "law 31 0", "left 101 -1 = 4");
        EDGES.edge("Promise 18: LEFT: how many (i -1), the i-th",
            "left 0 -1 = 0", "claim 1 0 0", "claim 1 1 0", "left 0 -1 = 2", "left 0 0 = 0", "left 0 1 = 1");
        EDGES.edge("Promise 18: LEFT: all of 32, and none",
            "32* claim 1 0 0", "left 0 -1 = 32", "left 0 0 = 0", "left 0 31 = 31", "left 0 32 = BAD", "suit 0>1:31=mw@0/0", "left 0 -1 = 0",
            "left 0 0 = BAD");
        EDGES.edge("Promise 18: BAD (also none such)",
            "left 0 0 = BAD", "claim 1 0 0", "left 0 1 = BAD", "left 0 -2 = BAD", "left 0 MIN = BAD", "left 0 MAX = BAD", "left -1 -1 = BAD",
            "left 8 -1 = BAD", "left 9 -1 = BAD", "left 99997 -1 = 1", "left 99998 -1 = BAD", "left 100000 -1 = BAD", "left MIN -1 = BAD",
            "left MAX -1 = BAD");
    }

    private static void lost() {
        EDGES.edge("4. LOST by a SUIT: CLAIMS that it closes and that were not asked in it",
            "claim 1 3 0", "claim 1 3 1", "claim 1 4 0", "claim 1 3 2", "suit 0>1:0,3=mw@10/0", "lost 0 -1 = 1", "lost 0 0 = 1", "law 0 1",
            "lost 0 -1 = 2", "lost 0 1 = 2", "law 0 0", "lost 0 -1 = 0", "lost 0 0 = BAD");
        EDGES.edge("4. LOST by a SUIT: (as told, on its DAY in its LAND)",
            "claim 1 3 0", "claim 501 3 1", "shoe 5 0 1 11", "suit 0>1:0=mw@10/2", "lost 0 -1 = 0", "moveShoe 0 10", "lost 0 -1 = 1",
            "law 22 0", "lost 0 -1 = 0", "law 22 1", "law 2 d", "lost 0 -1 = 0", "law 2 d=0&l=2&h=2", "lost 0 -1 = 1", "law 32 0", "lost 0 -1 = 1");
        EDGES.edge("4. LOST by a SUIT: on its DAY, on which it may be UNDONE",
            "claim 1 3 0", "claim 1 3 1", "suit 0>1:0=mw@10/0", "lost 0 -1 = 1", "undone 0 11", "lost 0 -1 = 1", "undo", "undone 0 10",
            "lost 0 -1 = 0");
        EDGES.edge("4. LOST by a SUIT: by it alone",
            "claim 1 3 0", "claim 1 3 1", "suit 0>1:1=mw@5/0", "suit 0>1:0=mw@10/0", "lost 1 -1 = 1", "lost 1 0 = 1", "lost 0 0 = 0",
            "suit 0>1:0=fw@10/0", "lost 2 -1 = 0");
        EDGES.edge("Promise 19: LOST: how many (i -1), the i-th: the last of all",
            "32* claim 1 0 0", "suit 0>1:0=mw@0/0", "lost 0 -1 = 31", "lost 0 0 = 1", "lost 0 30 = 31", "lost 0 31 = BAD");
        EDGES.edge("Promise 19: LOST: where the last of all was asked",
            "32* claim 1 0 0", "suit 0>1:31=mw@0/0", "lost 0 -1 = 31", "lost 0 0 = 0", "lost 0 30 = 30", "lost 0 31 = BAD");
        EDGES.edge("Promise 19: BAD (also none such)",
            "lost 0 -1 = BAD", "claim 1 0 0", "suit 0>1:0=mw@0/0", "lost 0 -1 = 0", "lost 0 0 = BAD", "lost 0 -2 = BAD", "lost 0 MIN = BAD",
            "lost 0 MAX = BAD", "lost -1 -1 = BAD", "lost 1 -1 = BAD", "lost MIN -1 = BAD", "lost MAX -1 = BAD");
    }

    private static void opens() {
        EDGES.edge("4. OPENS: CLAIMS that would be LEFT, if a SUIT were not there, and are not now",
            "claim 1 0 0", "claim 1 1 0", "claim 1 2 0", "suit 0>1:0,1=mw@10/0", "suit 0>1:1=mw@20/0", "opens 0 100 = 3", "opens 0 190 = 3",
            "opens 0 200 = 1", "opens 1 200 = 0", "opens 1 190 = 0", "opens 0 90 = 0", "undone 1 30", "opens 0 300 = 3");
        EDGES.edge("4. OPENS on d in h",
            "claim 1 0 0", "suit 0>1:0=mw@10/0", "law 31 0", "opens 0 100 = 1", "opens 0 101 = 0", "opens 0 102 = 1", "law 2 0", "opens 0 102 = 0");
        EDGES.edge("Promise 20: OPENS, as bits: CLAIMS 0 and 31",
            "32* claim 1 0 0", "suit 0>1:31=mw@0/0", "opens 0 0 = 0xffffffff", "law 0 c", "opens 0 0 = 0x80000000", "suit 0>1:0=mw@0/0",
            "opens 1 0 = 1");
        EDGES.edge("Promise 20: BAD",
            "opens 0 0 = BAD", "claim 1 0 0", "suit 0>1:0=mw@0/0", "opens -1 0 = BAD", "opens 1 0 = BAD", "opens MIN 0 = BAD", "opens MAX 0 = BAD",
            "opens 0 -1 = BAD", "opens 0 8 = BAD", "opens 0 9 = BAD", "opens 0 99997 = 1", "opens 0 99998 = BAD", "opens 0 100000 = BAD",
            "opens 0 MIN = BAD", "opens 0 MAX = BAD");
    }

    private static void clash() {
        EDGES.edge("4. CLASH of POINTS: pairs of SUITS that found one POINT both ways",
            "claim 1 0 0", "suit 0>1:0;3+n=mw@1/0", "suit 0>1:0;3+n=mw@1/0", "suit 0>1:0;4-n=mw@1/0", "clash -1 = 0", "suit 2>3:0;3-n=fl@0/7",
            "clash -1 = 2", "clash 0 = 3", "clash 1 = 103");
        EDGES.edge("4. CLASH of POINTS: and both needed it",
            "claim 1 0 0", "suit 0>1:0;3+n=mw@1/0", "suit 0>1:0;3-=mw@1/0", "suit 0>1:0;3-f=mw@1/0", "suit 0>1:0;3+fn=mw@1/0", "clash -1 = 0",
            "suit 0>1:0;3-fn=mw@1/0", "clash -1 = 2", "clash 0 = 4", "clash 1 = 304");
        EDGES.edge("4. CLASH of POINTS: by POINTS, then SUITS",
            "claim 1 0 0", "suit 0>1:0;31+n;0-n=mw@1/0", "suit 0>1:0;31-n;0-n=mw@1/0", "suit 0>1:0;31+n;0+n=mw@1/0", "clash -1 = 4",
            "clash 0 = 2", "clash 1 = 102", "clash 2 = 1", "clash 3 = 102", "clash 4 = BAD");
        EDGES.edge("4. CLASH of POINTS: pairs of one SUIT and several",
            "claim 1 0 0", "suit 0>1:0;3+n=mw@1/0", "suit 0>1:0;3-n=mw@1/0", "suit 0>1:0;3-n=mw@1/0", "suit 0>1:0;3-n=mw@1/0", "clash -1 = 3",
            "clash 0 = 1", "clash 1 = 2", "clash 2 = 3", "clash 3 = BAD");
        EDGES.edge("4. CLASH of POINTS: 100 times the POINT's first SUIT and the second one: the last two of 40",
            "claim 1 0 0", "38* suit 0>1:0=mw@1/0", "suit 0>1:0;0+n=mw@1/0", "suit 0>1:0;0-n=mw@1/0", "clash -1 = 1", "clash 0 = 3839");
        EDGES.edge("Promise 21: CLASH: BAD (also none such)",
            "clash -1 = 0", "clash 0 = BAD", "clash 1 = BAD", "clash -2 = BAD", "clash MIN = BAD", "clash MAX = BAD");
    }
}
