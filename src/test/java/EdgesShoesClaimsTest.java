/** Boundary cases of section 1 and of promises 1 to 8, sentence by sentence. */
public final class EdgesShoesClaimsTest {
    private static final Edges EDGES = new Edges("EdgesShoesClaimsTest");

    public static void main(String[] args) {
        numbers();
        howMany();
        boundBySteps();
        boundByRows();
        newObject();
        shoe();
        shoesFromARow();
        shoesThatEnd();
        ofShoeAndMoveShoe();
        bound();
        claimAndOfClaim();
        EDGES.end();
    }

    private static void numbers() {
        EDGES.edge("1. PEOPLE 0 .. 19 (all there are): a SHOE's PERSON",
            "shoe 0 1 1 0 = 0", "shoe 19 1 1 0 = 1", "shoe -1 1 1 0 = BAD", "shoe 20 1 1 0 = BAD");
        EDGES.edge("1. PEOPLE 0 .. 19 (all there are): the other one of a SHOE",
            "shoe 1 0 1 0 = 0", "shoe 1 19 1 0 = 1", "shoe 1 -1 1 0 = BAD", "shoe 1 20 1 0 = BAD");
        EDGES.edge("1. PEOPLE 0 .. 19 (all there are): a CLAIM's",
            "claim 100 0 0 = 0", "claim 1 0 0 = 1", "claim 1900 0 0 = 2", "claim 19 0 0 = 3", "claim 2000 0 0 = BAD",
            "claim 20 0 0 = BAD", "claim 99 0 0 = BAD", "claim -1 0 0 = BAD", "claim -100 0 0 = BAD", "claim -99 0 0 = BAD");
        EDGES.edge("1. PEOPLE 0 .. 19 (all there are): those of pq",
            "bound 0 0 0 0 = 0", "bound 1919 0 0 0 = 0", "bound 1920 0 0 0 = BAD", "bound 2019 0 0 0 = BAD",
            "bound 2020 0 0 0 = BAD", "bound -1 0 0 0 = BAD", "bound -101 0 0 0 = BAD", "bound MIN 0 0 0 = BAD",
            "bound MAX 0 0 0 = BAD");
        EDGES.edge("1. DAYS 0 .. 9999: of a SHOE",
            "shoe 0 1 1 0 = 0", "shoe 0 1 1 9999 = 1", "shoe 0 1 1 -1 = BAD", "shoe 0 1 1 10000 = BAD");
        EDGES.edge("1. DAYS 0 .. 9999: on which one is BOUND",
            "bound 0 0 0 0 = 0", "bound 0 9999 0 0 = 0", "bound 0 -1 0 0 = BAD", "bound 0 10000 0 0 = BAD");
        EDGES.edge("1. LANDS 0 .. 7",
            "bound 0 0 0 0 = 0", "bound 0 0 7 0 = 0", "bound 0 0 -1 0 = BAD", "bound 0 0 8 0 = BAD");
        EDGES.edge("1. by a SORT: 1 heir, .. 5 who led it",
            "shoe 0 1 1 0 = 0", "shoe 0 1 5 0 = 1", "shoe 0 1 0 0 = BAD", "shoe 0 1 6 0 = BAD", "shoe 0 1 -1 0 = BAD");
        EDGES.edge("1. CLAIMS of a FACT (0 .. 15)",
            "claim 1 0 0 = 0", "claim 1 15 0 = 1", "claim 1 -1 0 = BAD", "claim 1 16 0 = BAD");
        EDGES.edge("1. CLAIMS of a PLEA (0 .. 3)",
            "claim 1 0 0 = 0", "claim 1 0 3 = 1", "claim 1 0 -1 = BAD", "claim 1 0 4 = BAD");
    }

    private static void howMany() {
        EDGES.edge("1. SHOES 0 .. 39, as they come",
            "shoe 0 1 1 7 = 0", "shoe 2 3 4 8 = 1", "37* shoe 0 1 1 0", "shoe 5 6 2 9 = 39", "shoe 0 1 1 0 = FULL", "count 0 = 40",
            "ofShoe 0 3 = 7", "ofShoe 1 3 = 8", "ofShoe 39 3 = 9", "ofShoe 40 3 = BAD");
        EDGES.edge("1. CLAIMS 0 .. 31, as they come",
            "claim 1 3 0 = 0", "claim 1 4 0 = 1", "29* claim 1 0 0", "claim 1 5 0 = 31", "claim 1 0 0 = FULL", "count 1 = 32",
            "ofClaim 0 2 = 3", "ofClaim 1 2 = 4", "ofClaim 31 2 = 5", "ofClaim 32 2 = BAD");
    }

    private static void boundBySteps() {
        EDGES.edge("1. BOUND: if it is q (SORT 0, no steps)",
            "bound 505 0 0 0 = 0", "bound 505 0 0 1 = 0", "law 20 0 = 1", "bound 505 0 0 0 = 0", "bound 506 0 0 0 = NOT");
        EDGES.edge("1. BOUND: it is q, though SHOES lead round to it",
            "shoe 5 6 3 0", "shoe 6 5 4 0", "bound 505 9 0 0 = 0", "bound 505 9 0 1 = 0");
        EDGES.edge("1. by a row of 1 to 6 SHOES: one",
            "shoe 0 1 2 0", "bound 1 0 0 0 = 1", "bound 1 0 0 1 = 2", "bound 2 0 0 0 = NOT");
        EDGES.edge("1. by a row of 1 to 6 SHOES: six, and no seventh",
            "shoe 0 1 1 0", "shoe 1 2 1 0", "shoe 2 3 1 0", "shoe 3 4 1 0", "shoe 4 5 1 0", "shoe 5 6 1 0", "shoe 6 7 1 0",
            "law 20 1", "bound 5 0 0 0 = 5", "bound 6 0 0 0 = 6", "bound 7 0 0 0 = NOT", "bound 7 0 0 1 = NOT",
            "bound 107 0 0 0 = 6");
        EDGES.edge("1. p's to another one's and so on to q: not back",
            "shoe 0 1 1 0", "bound 1 9 0 0 = 1", "bound 100 9 0 0 = NOT");
        EDGES.edge("1. each from d or an earlier DAY on",
            "shoe 0 1 1 50", "bound 1 49 0 0 = NOT", "bound 1 50 0 0 = 1", "bound 1 51 0 0 = 1", "bound 1 9999 0 0 = 1");
        EDGES.edge("1. each from d or an earlier DAY on: every one of the row",
            "shoe 0 1 1 50", "shoe 1 2 1 60", "bound 2 59 0 0 = NOT", "bound 2 60 0 0 = 2", "moveShoe 0 61 = 50",
            "bound 2 60 0 0 = NOT", "bound 2 61 0 0 = 2");
        EDGES.edge("1. each from d or an earlier DAY on: DAYS 0 and 9999",
            "shoe 0 1 1 0", "shoe 2 3 1 9999", "bound 1 0 0 0 = 1", "bound 203 9998 0 0 = NOT", "bound 203 9999 0 0 = 1");
        EDGES.edge("1. each of which BINDS by the SORT",
            "shoe 0 1 1 0", "shoe 1 2 5 0", "law 20 s<5", "bound 1 0 0 0 = 1", "bound 102 0 0 0 = NOT", "bound 2 0 0 0 = NOT",
            "law 20 s=1|s=5", "bound 2 0 0 0 = 2");
        EDGES.edge("1. and how many steps it is from p on, 1 ..",
            "shoe 0 1 1 0", "shoe 1 2 1 0", "law 20 n=1", "bound 1 0 0 0 = 1", "bound 102 0 0 0 = 1", "bound 2 0 0 0 = NOT",
            "law 20 n=2", "bound 1 0 0 0 = NOT", "bound 2 0 0 0 = NOT", "law 20 n=0", "bound 1 0 0 0 = NOT", "law 20 n=1|n=2",
            "bound 2 0 0 0 = 2");
        EDGES.edge("1. and how many steps it is from p on: the sixth",
            "shoe 0 1 1 0", "shoe 1 2 1 0", "shoe 2 3 1 0", "shoe 3 4 1 0", "shoe 4 5 1 0", "shoe 5 6 2 0",
            "law 20 s=1|n=6", "bound 6 0 0 0 = 6", "bound 106 0 0 0 = NOT", "law 20 s=1|n=7", "bound 6 0 0 0 = NOT");
    }

    private static void boundByRows() {
        EDGES.edge("1. the fewest steps count",
            "shoe 0 1 3 0", "shoe 1 2 3 0", "bound 2 9 0 0 = 2", "bound 2 9 0 1 = 3", "shoe 0 2 4 9", "bound 2 8 0 0 = 2",
            "bound 2 9 0 0 = 1", "bound 2 9 0 1 = 4");
        EDGES.edge("1. SORT: that of the first SHOE",
            "shoe 1 2 4 0", "shoe 0 1 3 0", "bound 2 0 0 1 = 3", "bound 102 0 0 1 = 4");
        EDGES.edge("1. of like ones the row whose SHOES' numbers are first: one step",
            "shoe 0 1 4 5", "shoe 0 1 2 0", "shoe 0 1 3 0", "bound 1 5 0 1 = 4", "bound 1 4 0 1 = 2");
        EDGES.edge("1. of like ones the row whose SHOES' numbers are first: by the first SHOE, not by the last",
            "shoe 2 9 1 0", "shoe 0 1 2 0", "shoe 0 2 3 0", "shoe 1 9 1 0", "bound 9 0 0 1 = 2");
        EDGES.edge("1. of like ones the row whose SHOES' numbers are first: a first SHOE that leads nowhere is none",
            "shoe 0 5 2 0", "shoe 0 1 3 0", "shoe 1 9 1 0", "bound 9 0 0 1 = 3");
        EDGES.edge("1. of like ones the row whose SHOES' numbers are first: a first SHOE that leads elsewhere is none",
            "shoe 0 5 2 0", "shoe 5 6 1 0", "shoe 0 1 3 0", "shoe 1 9 1 0", "shoe 2 9 1 0", "bound 9 0 0 1 = 3", "bound 6 0 0 1 = 2");
        EDGES.edge("1. of like ones the row whose SHOES' numbers are first: a first SHOE behind which none binds yet is none",
            "shoe 0 5 2 0", "shoe 5 9 1 50", "shoe 0 1 3 0", "shoe 1 9 1 0", "bound 9 49 0 1 = 3", "bound 9 50 0 1 = 2");
        EDGES.edge("1. BOUND: by each of several SHOES of one PERSON",
            "shoe 0 1 1 0", "shoe 0 2 2 0", "shoe 0 3 3 0", "shoe 2 4 1 0", "bound 1 0 0 0 = 1", "bound 2 0 0 1 = 2", "bound 3 0 0 1 = 3",
            "bound 4 0 0 1 = 2");
        EDGES.edge("1. a row of SHOES: BINDS may turn on the step, so that it leads round",
            "shoe 0 1 1 0", "shoe 1 0 2 0", "shoe 0 2 3 0", "law 20 n=s", "bound 2 0 0 0 = 3", "bound 2 0 0 1 = 1");
    }

    private static void newObject() {
        EDGES.edge("Promise 1: No shoes",
            "count 0 = 0", "ofShoe 0 0 = BAD", "moveShoe 0 0 = BAD", "bound 1 9999 0 0 = NOT", "shoe 0 1 1 0 = 0");
        EDGES.edge("Promise 1: no claims",
            "count 1 = 0", "ofClaim 0 0 = BAD", "met 0 -1 0 = BAD", "wish 0 0 = BAD", "left 0 -1 = 0", "left 0 0 = BAD",
            "claim 1 0 0 = 0");
        EDGES.edge("Promise 1: no suits",
            "count 2 = 0", "ofSuit 0 0 = BAD", "won 0 0 = BAD", "undone 0 0 = BAD", "counts 0 0 0 = BAD", "lost 0 -1 = BAD",
            "opens 0 0 = BAD", "clash -1 = 0", "clash 0 = BAD", "joined 0 1 0 = BAD", "keep 0 0 = BAD", "claim 1 0 0 = 0",
            "suit 0>1:0=mw@1/0 = 0");
        EDGES.edge("Promise 1: A new object has nothing else either",
            "count 3 = 0", "count 4 = 0", "count 5 = 0", "count 6 = 0", "unwish = 0", "order 0 0 = STATE", "undo = STATE",
            "redo = STATE", "trace 0 = BAD", "act 0 0 5 = 0", "suit = -100", "law 0 = -100");
    }

    private static void shoe() {
        EDGES.edge("Promise 2: A SHOE: its number",
            "shoe 0 1 1 0 = 0", "shoe 0 1 1 0 = 1", "shoe 1 0 1 0 = 2", "count 0 = 3");
        EDGES.edge("Promise 2: BAD (also one's own)",
            "shoe 0 0 1 0 = BAD", "shoe 19 19 5 9999 = BAD", "shoe MIN 0 1 0 = BAD", "shoe MAX 0 1 0 = BAD", "shoe 0 MIN 1 0 = BAD",
            "shoe 0 MAX 1 0 = BAD", "shoe 0 1 MIN 0 = BAD", "shoe 0 1 MAX 0 = BAD", "shoe 0 1 1 MIN = BAD", "shoe 0 1 1 MAX = BAD",
            "count 0 = 0");
        EDGES.edge("Promise 2: FULL, behind BAD",
            "39* shoe 0 1 1 0", "shoe 0 1 1 0 = 39", "shoe 0 1 1 0 = FULL", "shoe 0 0 1 0 = BAD", "shoe 20 1 1 0 = BAD",
            "shoe 0 1 1 10000 = BAD", "shoe 0 1 0 0 = BAD", "count 0 = 40");
    }

    private static String[] rowOf(int place, int... values) {
        String[] told = new String[values.length + 1];
        told[0] = "row " + place + " 1 " + values.length;
        for (int i = 0; i < values.length; i++) {
            told[i + 1] = "put " + place + " " + i + " " + values[i];
        }
        return told;
    }

    private static void shoesFromARow() {
        EDGES.edge("Promise 3: from place i on", rowOf(2, 9, 0, 1, 2, 33, 4, 5, 6),
            "shoes 2 1 1 = 1", "ofShoe 0 0 = 0", "ofShoe 0 1 = 1", "ofShoe 0 2 = 2", "ofShoe 0 3 = 33", "shoes 2 0 1 = 1",
            "ofShoe 1 0 = 9", "shoes 2 4 1 = 0", "count 0 = 2");
        EDGES.edge("Promise 3: n (1 .. 15) of them", rowOf(0, 0, 1, 1, 0, 2, 3, 1, 0),
            "shoes 0 0 0 = BAD", "shoes 0 0 16 = BAD", "shoes 0 0 -1 = BAD", "shoes 0 0 MIN = BAD", "shoes 0 0 MAX = BAD",
            "count 0 = 0", "shoes 0 0 1 = 1", "shoes 0 0 15 = 2", "count 0 = 3");
        int[] sixty = new int[60];
        for (int i = 0; i < 15; i++) {
            sixty[4 * i] = i;
            sixty[4 * i + 1] = 19;
            sixty[4 * i + 2] = 5;
            sixty[4 * i + 3] = 100 + i;
        }
        EDGES.edge("Promise 3: n (1 .. 15) of them: all fifteen of sixty", rowOf(5, sixty),
            "shoes 5 0 15 = 15", "ofShoe 14 0 = 14", "ofShoe 14 3 = 114", "shoes 5 0 14 = 14", "count 0 = 29",
            "shoes 5 56 15 = 1", "shoes 5 57 15 = 0", "shoes 5 60 1 = 0", "shoes 5 61 1 = 0");
        EDGES.edge("Promise 3: 0 with i below 0", rowOf(0, 0, 1, 1, 0, 2, 3, 1, 0),
            "shoes 0 -1 1 = 0", "shoes 0 -4 2 = 0", "shoes 0 MIN 15 = 0", "count 0 = 0", "shoes 0 0 1 = 1");
        EDGES.edge("Promise 3: 0 with i below 0, where the row is missing", "shoes 0 -1 1 = 0", "shoes 0 -4 15 = 0");
        EDGES.edge("Promise 3: BAD, ahead of -12",
            "row 1 2 4", "shoes -1 0 1 = BAD", "shoes 6 0 1 = BAD", "shoes MIN 0 1 = BAD", "shoes MAX 0 1 = BAD", "shoes 1 0 0 = BAD",
            "shoes 1 0 16 = BAD", "shoes 1 0 1 = -12");
        EDGES.edge("Promise 3: -12 (no ROW of shorts)",
            "claim 1 0 0", "suit 0>1:0=mw@1/0", "keep 0 0", "row 1 0 8", "row 2 2 8", "row 3 3 8", "row 4 4 8", "shoes 0 0 1 = -12",
            "shoes 1 0 1 = -12", "shoes 2 0 1 = -12", "shoes 3 0 1 = -12", "shoes 4 0 1 = -12", "row 1 2 0", "shoes 1 0 1 = -12",
            "shoes 1 99 1 = -12", "shoes 1 -1 1 = -12", "row 1 1 8", "shoes 1 0 1 = 0");
        EDGES.edge("Promise 3: a PLACE that holds nothing is missing",
            "shoes 0 0 1 = 0", "shoes 5 0 15 = 0", "row 5 2 4", "keep 5 -1", "shoes 5 0 15 = 0", "shoes 5 MAX 15 = 0");
    }

    private static void shoesThatEnd() {
        EDGES.edge("5. SHOES FROM A ROW: it ends where the row ends: a row of none",
            "row 0 1 0", "shoes 0 0 1 = 0", "shoes 0 0 15 = 0");
        EDGES.edge("5. SHOES FROM A ROW: it ends where the row ends", rowOf(0, 0, 1, 1, 0, 2, 3, 1, 0),
            "shoes 0 0 3 = 2", "shoes 0 4 2 = 1", "shoes 0 8 1 = 0", "shoes 0 9 1 = 0", "shoes 0 MAX 15 = 0", "count 0 = 3");
        EDGES.edge("5. SHOES FROM A ROW: (within a four, too)", rowOf(0, 0, 1, 1, 0, 2, 3, 1),
            "shoes 0 0 2 = 1", "count 0 = 1", "shoes 0 4 1 = 0", "count 0 = 1", "shoes 0 3 1 = 1");
        EDGES.edge("5. SHOES FROM A ROW: (within a four, too): behind one and two of it", rowOf(0, 0, 1, 1, 0, 2, 3),
            "shoes 0 0 2 = 1", "shoes 0 5 1 = 0", "shoes 0 6 1 = 0", "count 0 = 1");
        EDGES.edge("5. SHOES FROM A ROW: it ends where one is not so: one's own", rowOf(0, 0, 1, 1, 0, 2, 2, 1, 0, 3, 4, 1, 0),
            "shoes 0 0 3 = 1", "count 0 = 1", "ofShoe 0 0 = 0", "shoes 0 4 2 = 0", "shoes 0 8 1 = 1");
        EDGES.edge("5. SHOES FROM A ROW: it ends where one is not so: its PERSON", rowOf(0, 0, 1, 1, 0, 20, 2, 1, 0, -1, 4, 1, 0),
            "shoes 0 0 3 = 1", "shoes 0 4 1 = 0", "shoes 0 8 1 = 0");
        EDGES.edge("5. SHOES FROM A ROW: it ends where one is not so: the other", rowOf(0, 0, 1, 1, 0, 2, 20, 1, 0, 3, -1, 1, 0),
            "shoes 0 0 3 = 1", "shoes 0 4 1 = 0", "shoes 0 8 1 = 0");
        EDGES.edge("5. SHOES FROM A ROW: it ends where one is not so: its SORT", rowOf(0, 0, 1, 1, 0, 2, 3, 0, 0, 3, 4, 6, 0),
            "shoes 0 0 3 = 1", "shoes 0 4 1 = 0", "shoes 0 8 1 = 0");
        EDGES.edge("5. SHOES FROM A ROW: it ends where one is not so: its DAY", rowOf(0, 0, 1, 1, 0, 2, 3, 1, 10000, 3, 4, 1, -1),
            "shoes 0 0 3 = 1", "shoes 0 4 1 = 0", "shoes 0 8 1 = 0", "put 0 7 9999", "shoes 0 0 3 = 2");
        EDGES.edge("5. SHOES FROM A ROW: it ends where SHOES are FULL: those ahead came",
            rowOf(0, 0, 1, 1, 7, 2, 3, 1, 8, 4, 5, 1, 9), "38* shoe 0 1 1 0", "shoes 0 0 3 = 2", "count 0 = 40", "ofShoe 38 3 = 7",
            "ofShoe 39 3 = 8", "shoes 0 0 3 = 0", "shoes 0 0 1 = 0", "shoe 0 1 1 0 = FULL");
    }

    private static void ofShoeAndMoveShoe() {
        EDGES.edge("Promise 4: Of a SHOE: 0 PERSON, 1 other, 2 SORT, 3 DAY",
            "shoe 18 17 4 1234", "ofShoe 0 0 = 18", "ofShoe 0 1 = 17", "ofShoe 0 2 = 4", "ofShoe 0 3 = 1234");
        EDGES.edge("Promise 4: BAD",
            "ofShoe 0 0 = BAD", "shoe 18 17 4 1234", "ofShoe 0 -1 = BAD", "ofShoe 0 4 = BAD", "ofShoe 0 MIN = BAD", "ofShoe 0 MAX = BAD",
            "ofShoe -1 0 = BAD", "ofShoe 1 0 = BAD", "ofShoe MIN 0 = BAD", "ofShoe MAX 0 = BAD", "ofShoe 40 0 = BAD");
        EDGES.edge("Promise 5: The DAY of a SHOE becomes v: what it was",
            "shoe 0 1 1 50", "shoe 2 3 1 60", "moveShoe 0 70 = 50", "moveShoe 0 70 = 70", "moveShoe 0 0 = 70", "moveShoe 0 9999 = 0",
            "ofShoe 0 3 = 9999", "ofShoe 1 3 = 60", "bound 1 9998 0 0 = NOT", "bound 1 9999 0 0 = 1");
        EDGES.edge("Promise 5: BAD",
            "moveShoe 0 0 = BAD", "shoe 0 1 1 50", "moveShoe 0 -1 = BAD", "moveShoe 0 10000 = BAD", "moveShoe 0 MIN = BAD",
            "moveShoe 0 MAX = BAD", "moveShoe -1 0 = BAD", "moveShoe 1 0 = BAD", "moveShoe MIN 0 = BAD", "moveShoe MAX 0 = BAD",
            "ofShoe 0 3 = 50", "count 5 = 0");
    }

    private static void bound() {
        EDGES.edge("Promise 6: steps (what 0; 0: it is q), SORT of the first SHOE (1)",
            "shoe 0 1 4 0", "shoe 1 2 5 0", "bound 1 0 0 0 = 1", "bound 1 0 0 1 = 4", "bound 2 0 0 0 = 2", "bound 2 0 0 1 = 4",
            "bound 202 0 0 0 = 0", "bound 202 0 0 1 = 0");
        EDGES.edge("Promise 6: SORT of the first SHOE (1): of the last PERSONS",
            "shoe 19 18 4 0", "shoe 18 19 5 0", "bound 1918 0 0 1 = 4", "bound 1819 0 0 1 = 5", "bound 1918 0 0 0 = 1", "bound 1819 0 0 0 = 1");
        EDGES.edge("Promise 6: BOUND by BINDS of a LAND",
            "shoe 0 1 1 0", "law 27 0", "bound 1 0 7 0 = NOT", "bound 1 0 6 0 = 1", "bound 1 0 0 0 = 1", "law 20 0", "law 27 1",
            "bound 1 0 7 0 = 1", "bound 1 0 0 0 = NOT");
        EDGES.edge("Promise 6: BAD, ahead of NOT",
            "bound 1 0 0 -1 = BAD", "bound 1 0 0 2 = BAD", "bound 1 0 0 MIN = BAD", "bound 1 0 0 MAX = BAD", "bound 1 MIN 0 0 = BAD",
            "bound 1 MAX 0 0 = BAD", "bound 1 0 MIN 0 = BAD", "bound 1 0 MAX 0 = BAD", "bound 20 0 0 0 = BAD", "bound 2000 0 0 0 = BAD");
        EDGES.edge("Promise 6: NOT", "bound 1 0 0 0 = NOT", "bound 1 0 0 1 = NOT", "bound 1918 9999 7 0 = NOT");
        EDGES.edge("Promise 6: pq: 100 times p and q",
            "shoe 12 7 3 0", "bound 1207 0 0 0 = 1", "bound 712 0 0 0 = NOT", "bound 1208 0 0 0 = NOT");
    }

    private static void claimAndOfClaim() {
        EDGES.edge("Promise 7: A CLAIM: its number",
            "claim 1 0 0 = 0", "claim 1 0 0 = 1", "claim 100 0 0 = 2", "count 1 = 3");
        EDGES.edge("Promise 7: BAD (one against oneself)",
            "claim 0 0 0 = BAD", "claim 505 0 0 = BAD", "claim 1919 15 3 = BAD", "claim MIN 0 0 = BAD", "claim MAX 0 0 = BAD",
            "claim 1 MIN 0 = BAD", "claim 1 MAX 0 = BAD", "claim 1 0 MIN = BAD", "claim 1 0 MAX = BAD", "count 1 = 0");
        EDGES.edge("Promise 7: FULL, behind BAD",
            "31* claim 1 0 0", "claim 1 0 0 = 31", "claim 1 0 0 = FULL", "claim 505 0 0 = BAD", "claim 1 16 0 = BAD",
            "claim 1 0 4 = BAD", "claim 2000 0 0 = BAD", "count 1 = 32");
        EDGES.edge("Promise 8: Of a CLAIM: 0 who, 1 against whom, 2 FACT, 3 PLEA",
            "claim 1807 13 2", "ofClaim 0 0 = 18", "ofClaim 0 1 = 7", "ofClaim 0 2 = 13", "ofClaim 0 3 = 2");
        EDGES.edge("Promise 8: BAD",
            "ofClaim 0 0 = BAD", "claim 1 0 0", "ofClaim 0 -1 = BAD", "ofClaim 0 4 = BAD", "ofClaim 0 MIN = BAD", "ofClaim 0 MAX = BAD",
            "ofClaim -1 0 = BAD", "ofClaim 1 0 = BAD", "ofClaim MIN 0 = BAD", "ofClaim MAX 0 = BAD", "ofClaim 32 0 = BAD");
    }
}
