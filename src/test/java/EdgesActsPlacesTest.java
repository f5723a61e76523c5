/** Boundary cases of section 5 and of promises 31 to 39, sentence by sentence: acts of ENDINGS, THE TRACE, PLACES, ROWS. */
public final class EdgesActsPlacesTest {
    private static final Edges EDGES = new Edges("EdgesActsPlacesTest");
    // SUITS of 3 CLAIMS each; the number of each of 1 to 6 is its KIND's.
    private static final String[] OF_ALL_KINDS = {"3* claim 1 0 0", "suit 0>1:0,1,2=mw@0/0", "suit 0>1:0,1,2=mw@0/0",
        "suit 0>1:0,1,2=fw@0/0", "suit 0>1:0,1,2=aw@0/0", "suit 0>1:0,1,2=dw@0/0", "suit 0>1:0,1,2=aw@0/0", "suit 0>1:0,1,2=p1w@0/0",
        "undone 5 9"};
    private static final String[] SIX = {"row 0 2 6", "put 0 0 10", "put 0 1 11", "put 0 2 12", "put 0 3 13", "put 0 4 14", "put 0 5 15"};

    public static void main(String[] args) {
        bodiesOfCloses();
        bodiesOfSettles();
        bodiesOfBindsAndTells();
        wrapping();
        ownKind();
        trace();
        act();
        places();
        sorts();
        lowestBits();
        refusals();
        keep();
        row();
        put();
        element();
        shiftOfRows();
        shift();
        taken();
        takenAsItIsNow();
        count();
        EDGES.end();
    }

    private static void bodiesOfCloses() {
        EDGES.edge("5. CLOSES: 1 closes: x + n", OF_ALL_KINDS,
            "act 1 0 100 = 101", "count 6 = 1", "trace 0 = 1", "act 2 0 100 = 102", "count 6 = 1", "trace 0 = 1", "act 0 0 100 = 100",
            "act 0 0 0 = 0", "count 6 = 1", "act 1 0 -1 = 0", "count 6 = 1");
        EDGES.edge("5. AGREED: 40 closes: super.closes(x) - 1", OF_ALL_KINDS,
            "act 3 0 100 = 102", "count 6 = 2", "trace 0 = 40", "trace 1 = 1");
        EDGES.edge("5. DEFAULT: closes(..): of the next KIND above that has one", OF_ALL_KINDS,
            "act 4 0 100 = 103", "count 6 = 2", "trace 0 = 40", "trace 1 = 1");
        EDGES.edge("5. UNDONE: 60 closes: super.closes(x + 1) * 2", OF_ALL_KINDS,
            "act 5 0 100 = 212", "count 6 = 2", "trace 0 = 60", "trace 1 = 1");
        EDGES.edge("5. PART: 70 closes: super.closes(x) + c", OF_ALL_KINDS,
            "act 6 0 100 = 109", "count 6 = 2", "trace 0 = 70", "trace 1 = 1");
    }

    private static void bodiesOfSettles() {
        EDGES.edge("5. ENDING: 10 settles: closes(x) * 2", OF_ALL_KINDS,
            "act 2 1 100 = 204", "count 6 = 2", "trace 0 = 10", "trace 1 = 1", "act 3 1 100 = 204", "count 6 = 3", "trace 0 = 10",
            "trace 1 = 40", "trace 2 = 1", "act 5 1 100 = 424", "trace 0 = 10", "trace 1 = 60", "trace 2 = 1");
        EDGES.edge("5. MERITS: 20 settles: super.settles(x) + c", OF_ALL_KINDS,
            "act 1 1 100 = 205", "count 6 = 3", "trace 0 = 20", "trace 1 = 10", "trace 2 = 1");
        EDGES.edge("5. DEFAULT: 50 settles: -super.settles(x)", OF_ALL_KINDS,
            "act 4 1 100 = -206", "count 6 = 4", "trace 0 = 50", "trace 1 = 10", "trace 2 = 40", "trace 3 = 1", "act 4 1 -3 = 0");
        EDGES.edge("5. PART: 71 settles: super.settles(x) - binds(2)", OF_ALL_KINDS,
            "act 6 1 100 = 217", "count 6 = 6", "trace 0 = 71", "trace 1 = 20", "trace 2 = 10", "trace 3 = 70", "trace 4 = 1", "trace 5 = 11");
        EDGES.edge("5. PART: binds(2) runs behind super.settles(x)", OF_ALL_KINDS, "act 6 3 100 = 210", "count 6 = 8", "trace 0 = 2",
            "trace 4 = 70", "trace 5 = 1", "trace 6 = 11", "trace 7 = 11", "trace 8 = BAD");
    }

    private static void bodiesOfBindsAndTells() {
        EDGES.edge("5. ENDING: 11 binds: x ^ n", OF_ALL_KINDS,
            "act 1 2 100 = 101", "count 6 = 1", "trace 0 = 11", "act 3 2 100 = 103", "act 4 2 100 = 96", "act 6 2 100 = 98", "act 6 2 6 = 0",
            "act 1 2 -1 = -2", "count 6 = 1");
        EDGES.edge("5. FORM: 30 binds: super.binds(x) * 3", OF_ALL_KINDS,
            "act 2 2 100 = 306", "count 6 = 2", "trace 0 = 30", "trace 1 = 11", "act 5 2 100 = 291", "count 6 = 2", "trace 0 = 30");
        EDGES.edge("5. TELLS: 2 tells: settles(x) - binds(1)", OF_ALL_KINDS,
            "act 1 3 100 = 205", "count 6 = 5", "trace 0 = 2", "trace 1 = 20", "trace 2 = 10", "trace 3 = 1", "trace 4 = 11",
            "act 2 3 100 = 195", "trace 0 = 2", "trace 3 = 30", "act 3 3 100 = 202", "act 5 3 100 = 412");
        EDGES.edge("5. DEFAULT: 51 tells: super.tells(x) ^ 5", OF_ALL_KINDS,
            "act 4 3 100 = -216", "count 6 = 7", "trace 0 = 51", "trace 1 = 2", "trace 2 = 50", "trace 3 = 10", "trace 4 = 40", "trace 5 = 1",
            "trace 6 = 11");
    }

    private static void wrapping() {
        EDGES.edge("5. x (an int that wraps): closes", OF_ALL_KINDS,
            "act 1 0 MAX = MIN", "act 6 0 MAX = -2147483640", "act 5 0 MAX = 10", "act 3 0 MIN = -2147483646",
            "act 3 0 2147483645 = MAX");
        EDGES.edge("5. x (an int that wraps): settles, binds, tells", OF_ALL_KINDS,
            "act 2 1 MAX = 2", "act 0 1 MIN = 3", "act 2 2 MAX = 2147483639", "act 5 2 MIN = -2147483633", "act 4 1 MAX = -4",
            "act 4 1 0x3ffffffd = MIN", "act 0 3 MIN = 2", "act 2 3 0x3ffffffe = 2147483639");
    }

    private static void ownKind() {
        EDGES.edge("5. n its number, c how many CLAIMS it has: not how many of a PART",
            "9* claim 1 0 0", "suit 0>1:8=p1w@0/0", "suit 0>1:0,1,2,3,4=p2w@0/0", "act 0 0 7 = 8", "act 1 0 7 = 13", "act 0 1 7 = 15",
            "act 1 1 7 = 28");
        EDGES.edge("5. n its number: the last of all",
            "claim 1 0 0", "39* suit 0>1:0=fw@0/0", "suit 0>1:0=mw@0/0", "act 39 0 1 = 40", "act 39 1 1 = 81", "act 39 2 1 = 38",
            "act 38 2 1 = 117", "act 40 2 1 = 0");
        EDGES.edge("5. the body of its own KIND: UNDONE from the call on",
            "claim 1 0 0", "suit 0>1:0=dw@50/0", "act 0 3 5 = -14", "trace 0 = 51", "undone 0 9999", "act 0 3 5 = 21", "trace 0 = 2", "trace 2 = 60",
            "undo", "act 0 3 5 = -14", "redo", "act 0 3 5 = 21");
    }

    private static void trace() {
        EDGES.edge("5. THE TRACE: of the latest act()", OF_ALL_KINDS,
            "act 4 3 1", "count 6 = 7", "trace 6 = 11", "act 1 2 1", "count 6 = 1", "trace 0 = 11", "trace 1 = BAD", "trace 6 = BAD");
        EDGES.edge("5. THE TRACE: other calls leave it as it is", OF_ALL_KINDS,
            "act 3 0 1", "suit 0>1:0=mw@0/0", "undone 3 0", "keep 0 3", "taken 0 5", "won 3 0", "undo", "left 0 -1", "count 6 = 2", "trace 0 = 40",
            "trace 1 = 1");
        EDGES.edge("Promise 32: THE TRACE's i-th body. BAD",
            "trace 0 = BAD", "claim 1 0 0", "suit 0>1:0=mw@0/0", "trace 0 = BAD", "act 0 1 5", "trace -1 = BAD", "trace 0 = 20", "trace 2 = 1",
            "trace 3 = BAD", "trace 23 = BAD", "trace 24 = BAD", "trace MIN = BAD", "trace MAX = BAD");
    }

    private static void act() {
        EDGES.edge("Promise 31: 0, and no TRACE then: no such ENDING", OF_ALL_KINDS,
            "act 1 0 9", "act 7 0 9 = 0", "count 6 = 0", "trace 0 = BAD", "act 1 0 9", "act -1 0 9 = 0", "count 6 = 0", "act 1 0 9",
            "act MIN 0 9 = 0", "count 6 = 0", "act 1 0 9", "act MAX 0 9 = 0", "count 6 = 0", "act 40 3 9 = 0", "count 6 = 0");
        EDGES.edge("Promise 31: 0, and no TRACE then: no such ACT (0 .. 3)", OF_ALL_KINDS,
            "act 1 0 9", "act 1 4 9 = 0", "count 6 = 0", "trace 0 = BAD", "act 1 3 9", "act 1 -1 9 = 0", "count 6 = 0", "act 1 3 9",
            "act 1 MIN 9 = 0", "count 6 = 0", "act 1 3 9", "act 1 MAX 9 = 0", "count 6 = 0", "trace 0 = BAD");
        EDGES.edge("Promise 31: 0: no ENDING at all", "act 0 0 5 = 0", "count 6 = 0", "act 0 3 5 = 0", "trace 0 = BAD");
    }

    private static void places() {
        EDGES.edge("5. PLACES 0 .. 5 each hold nothing (at first)",
            "taken 0 0 = -11", "taken 1 0 = -11", "taken 2 0 = -11", "taken 3 0 = -11", "taken 4 0 = -11", "taken 5 0 = -11", "put 0 0 0 = -11",
            "put 5 0 0 = -11", "element 0 0 = LMIN", "shift 0 0 0 0 0 = -11");
        EDGES.edge("5. PLACES 0 .. 5: each of its own",
            "claim 1 0 0", "suit 0>1:0=fw@0/0", "row 0 0 1", "row 5 0 1", "put 0 0 7", "put 5 0 8", "keep 1 0", "element 0 0 = 7", "element 5 0 = 8",
            "taken 1 2 = 2", "taken 2 2 = -11", "taken 6 2 = BAD", "row 6 0 1 = BAD", "row -1 0 1 = BAD", "keep 6 0 = BAD", "keep -1 0 = BAD");
        EDGES.edge("5. PLACES hold nothing, an ENDING, or a ROW: what comes takes the other's room",
            "claim 1 0 0", "suit 0>1:0=fw@0/0", "row 0 3 2", "put 0 0 9", "keep 0 0 = 1", "put 0 0 1 = -12", "element 0 0 = LMIN", "taken 0 0 = 2",
            "row 0 3 2 = 1", "element 0 0 = 0", "taken 0 0 = -12", "keep 0 -1 = 1", "put 0 0 1 = -11", "taken 0 0 = -11");
        EDGES.edge("5. ROWS of 0 .. 60 elements: none",
            "row 0 0 0 = 1", "put 0 0 1 = -13", "element 0 0 = LMIN", "shift 0 0 0 0 0 = 0", "shift 0 0 0 0 1 = -13", "taken 0 0 = -12");
        EDGES.edge("5. ROWS of 0 .. 60 elements: sixty",
            "row 0 3 60 = 1", "put 0 59 7 = 1", "element 0 59 = 7", "put 0 60 7 = -13", "element 0 60 = LMIN", "row 0 3 61 = BAD",
            "element 0 59 = 7", "element 0 0 = 0", "shift 0 0 0 1 59 = 59", "shift 0 0 0 1 60 = -13", "shift 0 0 0 0 60 = 60");
        EDGES.edge("5. ROWS: 0 at first (false)",
            "row 0 0 60", "row 1 1 60", "row 2 2 60", "row 3 3 60", "row 4 4 60", "element 0 0 = 0", "element 0 59 = 0", "element 1 59 = 0",
            "element 2 59 = 0", "element 3 59 = 0", "element 4 0 = 0", "element 4 59 = 0");
        EDGES.edge("5. ROWS: 0 at first, where another one was",
            "row 0 3 60", "put 0 0 5", "put 0 59 6", "row 0 3 1", "element 0 0 = 0", "row 0 3 60", "element 0 59 = 0", "put 0 0 1", "row 0 4 2",
            "element 0 0 = 0", "element 0 1 = 0", "element 0 2 = LMIN");
    }

    private static void sorts() {
        EDGES.edge("5. a ROW: of 0 bytes: their least and greatest",
            "row 0 0 1", "put 0 0 127 = 1", "element 0 0 = 127", "put 0 0 128 = 1", "element 0 0 = -128", "put 0 0 -128 = 1", "element 0 0 = -128",
            "put 0 0 -129 = 1", "element 0 0 = 127");
        EDGES.edge("5. a ROW: of 1 shorts: their least and greatest",
            "row 0 1 1", "put 0 0 32767 = 1", "element 0 0 = 32767", "put 0 0 32768 = 1", "element 0 0 = -32768", "put 0 0 -32768 = 1",
            "element 0 0 = -32768", "put 0 0 -32769 = 1", "element 0 0 = 32767");
        EDGES.edge("5. a ROW: of 2 ints: their least and greatest",
            "row 0 2 1", "put 0 0 MAX = 1", "element 0 0 = MAX", "put 0 0 2147483648 = 1", "element 0 0 = MIN", "put 0 0 MIN = 1",
            "element 0 0 = MIN", "put 0 0 -2147483649 = 1", "element 0 0 = MAX");
        EDGES.edge("5. a ROW: of 3 longs: their least and greatest",
            "row 0 3 2", "put 0 0 LMAX = 1", "element 0 0 = LMAX", "put 0 1 LMIN = 1", "element 0 1 = LMIN", "shift 0 1 0 0 1 = 1",
            "element 0 0 = LMIN", "put 0 0 -1", "element 0 0 = -1");
        EDGES.edge("5. a ROW: of 4 booleans: whether it is not 0; 1 or 0",
            "row 0 4 1", "put 0 0 1 = 1", "element 0 0 = 1", "put 0 0 0 = 1", "element 0 0 = 0", "put 0 0 2 = 1", "element 0 0 = 1", "put 0 0 0",
            "put 0 0 -1 = 1", "element 0 0 = 1");
    }

    private static void lowestBits() {
        EDGES.edge("5. what is put in keeps its lowest bits: of a byte",
            "row 0 0 1", "put 0 0 256", "element 0 0 = 0", "put 0 0 511", "element 0 0 = -1", "put 0 0 LMIN", "element 0 0 = 0", "put 0 0 LMAX",
            "element 0 0 = -1", "put 0 0 0x1234567890", "element 0 0 = -112");
        EDGES.edge("5. what is put in keeps its lowest bits: of a short",
            "row 0 1 1", "put 0 0 65536", "element 0 0 = 0", "put 0 0 65537", "element 0 0 = 1", "put 0 0 LMIN", "element 0 0 = 0", "put 0 0 LMAX",
            "element 0 0 = -1", "put 0 0 0x1234567890", "element 0 0 = 30864");
        EDGES.edge("5. what is put in keeps its lowest bits: of an int",
            "row 0 2 1", "put 0 0 4294967296", "element 0 0 = 0", "put 0 0 4294967297", "element 0 0 = 1", "put 0 0 LMIN", "element 0 0 = 0",
            "put 0 0 LMAX", "element 0 0 = -1", "put 0 0 0x1234567890", "element 0 0 = 0x34567890");
        EDGES.edge("5. (a boolean: whether it is not 0): by all its bits, not by the lowest",
            "row 0 4 1", "put 0 0 256", "element 0 0 = 1", "put 0 0 0", "put 0 0 4294967296", "element 0 0 = 1", "put 0 0 0", "put 0 0 LMIN",
            "element 0 0 = 1", "put 0 0 0", "element 0 0 = 0");
    }

    private static void refusals() {
        EDGES.edge("5. -11 nothing is there where something is wanted",
            "row 1 2 3", "put 0 0 0 = -11", "put 0 -1 0 = -11", "put 0 99 0 = -11", "shift 0 0 1 0 1 = -11", "shift 1 0 0 0 1 = -11", "taken 0 6 = -11",
            "element 0 0 = LMIN");
        EDGES.edge("5. -12 it is of another kind",
            "claim 1 0 0", "suit 0>1:0=mw@0/0", "keep 0 0", "row 1 2 3", "row 2 3 3", "put 0 0 0 = -12", "put 0 -1 0 = -12", "put 0 99 0 = -12",
            "shift 0 0 1 0 1 = -12", "shift 1 0 0 0 1 = -12", "shift 1 0 2 0 1 = -12", "taken 1 0 = -12", "taken 0 2 = -12", "shoes 0 0 1 = -12",
            "element 0 0 = LMIN");
        EDGES.edge("5. -13 a place that is not there",
            "row 1 2 3", "put 1 3 0 = -13", "put 1 -1 0 = -13", "shift 1 3 1 0 1 = -13", "shift 1 0 1 3 1 = -13", "element 1 3 = LMIN",
            "element 1 -1 = LMIN");
        EDGES.edge("5. -14 a size below 0",
            "row 1 2 -1 = -14", "row 1 2 MIN = -14", "taken 1 0 = -11", "row 1 2 0 = 1", "row 1 2 -1 = -14", "taken 1 0 = -12");
        EDGES.edge("Answers, of several the one named first: BAD ahead of all",
            "row 6 5 -1 = BAD", "row 0 5 -1 = BAD", "row -1 0 -1 = BAD", "put 6 -1 0 = BAD", "shift 6 -1 0 -1 -1 = BAD", "shift 0 -1 6 -1 -1 = BAD",
            "taken 6 -1 = BAD", "taken 0 7 = BAD", "shoes 6 0 1 = BAD");
        EDGES.edge("Answers, of several the one named first: -11, -12, -13",
            "claim 1 0 0", "suit 0>1:0=mw@0/0", "keep 0 0", "row 1 2 3", "row 2 3 3", "shift 0 -1 5 -1 -1 = -11", "shift 5 -1 0 -1 -1 = -11",
            "shift 0 -1 1 -1 -1 = -12", "shift 1 -1 2 -1 -1 = -12", "shift 1 -1 1 -1 -1 = -13");
    }

    private static void keep() {
        EDGES.edge("Promise 33: A PLACE holds nothing (suit -1), or an ENDING: 1",
            "claim 1 0 0", "suit 0>1:0=mw@0/0", "suit 0>1:0=dw@0/0", "keep 0 1 = 1", "taken 0 4 = 4", "keep 0 0 = 1", "taken 0 1 = 1",
            "keep 5 0 = 1", "taken 5 0 = 1", "keep 0 -1 = 1", "keep 0 -1 = 1", "taken 0 0 = -11", "taken 5 0 = 1", "keep 4 -1 = 1");
        EDGES.edge("Promise 33: BAD: no such PLACE",
            "claim 1 0 0", "suit 0>1:0=mw@0/0", "keep -1 0 = BAD", "keep 6 0 = BAD", "keep -1 -1 = BAD", "keep 6 -1 = BAD", "keep MIN 0 = BAD",
            "keep MAX 0 = BAD");
        EDGES.edge("Promise 33: BAD: no such SUIT",
            "keep 0 0 = BAD", "claim 1 0 0", "suit 0>1:0=mw@0/0", "row 0 2 3", "keep 0 1 = BAD", "keep 0 -2 = BAD", "keep 0 40 = BAD",
            "keep 0 MIN = BAD", "keep 0 MAX = BAD", "element 0 2 = 0");
        EDGES.edge("Promise 33: an ENDING: the last of 40",
            "claim 1 0 0", "39* suit 0>1:0=mw@0/0", "suit 0>1:0=p1w@0/0", "keep 3 39 = 1", "taken 3 6 = 6", "keep 3 40 = BAD", "taken 3 6 = 6");
    }

    private static void row() {
        EDGES.edge("Promise 34: A PLACE holds a ROW: 1. BAD (sort)",
            "row 0 0 1 = 1", "row 0 4 1 = 1", "put 0 0 1", "row 0 -1 1 = BAD", "row 0 5 1 = BAD", "row 0 MIN 1 = BAD", "row 0 MAX 1 = BAD",
            "element 0 0 = 1");
        EDGES.edge("Promise 34: BAD (n above 60)",
            "row 0 0 60 = 1", "row 0 0 61 = BAD", "row 0 0 MAX = BAD", "row 0 4 61 = BAD", "put 0 59 1 = 1");
        EDGES.edge("Promise 34: BAD: no such PLACE",
            "row -1 0 1 = BAD", "row 6 0 1 = BAD", "row MIN 0 1 = BAD", "row MAX 0 1 = BAD", "row 5 0 1 = 1");
        EDGES.edge("Promise 34: -14", "row 0 0 -1 = -14", "row 5 4 MIN = -14", "put 0 0 0 = -11", "row 0 0 0 = 1");
        EDGES.edge("Promise 34: BAD, ahead of -14", "row 0 5 -1 = BAD", "row 0 -1 -1 = BAD", "row 6 0 -1 = BAD", "row -1 0 MIN = BAD",
            "row 0 0 -1 = -14");
    }

    private static void put() {
        EDGES.edge("Promise 35: Element i of a ROW becomes v: 1: it alone", SIX,
            "put 0 2 99 = 1", "element 0 1 = 11", "element 0 2 = 99", "element 0 3 = 13", "put 0 0 98 = 1", "put 0 5 97 = 1", "element 0 0 = 98",
            "element 0 5 = 97", "element 0 4 = 14");
        EDGES.edge("Promise 35: BAD", SIX,
            "put -1 0 1 = BAD", "put 6 0 1 = BAD", "put MIN 0 1 = BAD", "put MAX 0 1 = BAD", "put 6 6 1 = BAD");
        EDGES.edge("Promise 35: -11, ahead of -13", SIX, "put 1 0 1 = -11", "put 1 -1 1 = -11", "put 1 60 1 = -11");
        EDGES.edge("Promise 35: -12, ahead of -13",
            "claim 1 0 0", "suit 0>1:0=mw@0/0", "keep 0 0", "put 0 0 1 = -12", "put 0 -1 1 = -12", "put 0 60 1 = -12", "taken 0 1 = 1");
        EDGES.edge("Promise 35: -13", SIX,
            "put 0 -1 1 = -13", "put 0 6 1 = -13", "put 0 59 1 = -13", "put 0 60 1 = -13", "put 0 MIN 1 = -13", "put 0 MAX 1 = -13",
            "element 0 0 = 10", "element 0 5 = 15");
        EDGES.edge("Promise 35: -13: behind a lesser ROW than was there", SIX, "row 0 2 3", "put 0 2 1 = 1", "put 0 3 1 = -13", "put 0 5 1 = -13");
    }

    private static void element() {
        EDGES.edge("Promise 36: Element i of a ROW", SIX, "element 0 0 = 10", "element 0 3 = 13", "element 0 5 = 15");
        EDGES.edge("Promise 36: Long.MIN_VALUE: BAD", SIX,
            "element -1 0 = LMIN", "element 6 0 = LMIN", "element MIN 0 = LMIN", "element MAX 0 = LMIN");
        EDGES.edge("Promise 36: Long.MIN_VALUE: -11", SIX, "element 1 0 = LMIN", "element 1 -1 = LMIN", "keep 0 -1", "element 0 0 = LMIN");
        EDGES.edge("Promise 36: Long.MIN_VALUE: -12",
            "claim 1 0 0", "suit 0>1:0=mw@0/0", "row 0 0 1", "keep 0 0", "element 0 0 = LMIN", "element 0 -1 = LMIN");
        EDGES.edge("Promise 36: Long.MIN_VALUE: -13", SIX,
            "element 0 -1 = LMIN", "element 0 6 = LMIN", "element 0 59 = LMIN", "element 0 60 = LMIN", "element 0 MIN = LMIN",
            "element 0 MAX = LMIN");
    }

    private static void shiftOfRows() {
        EDGES.edge("Promise 37: n elements of a ROW from i on come to another one from j on", SIX,
            "row 1 2 4", "shift 0 1 1 2 2 = 2", "element 1 0 = 0", "element 1 1 = 0", "element 1 2 = 11", "element 1 3 = 12", "element 0 1 = 11",
            "element 0 2 = 12");
        EDGES.edge("Promise 37: (or the same), as they all were before: onward", SIX,
            "shift 0 0 0 1 5 = 5", "element 0 0 = 10", "element 0 1 = 10", "element 0 2 = 11", "element 0 5 = 14");
        EDGES.edge("Promise 37: (or the same), as they all were before: back", SIX,
            "shift 0 1 0 0 5 = 5", "element 0 0 = 11", "element 0 3 = 14", "element 0 4 = 15", "element 0 5 = 15");
        EDGES.edge("Promise 37: (or the same): to where they are", SIX, "shift 0 0 0 0 6 = 6", "element 0 0 = 10", "element 0 5 = 15");
        EDGES.edge("Promise 37: n elements: none", SIX,
            "row 1 2 0", "shift 0 0 0 3 0 = 0", "shift 0 6 0 6 0 = 0", "shift 0 6 1 0 0 = 0", "shift 1 0 0 6 0 = 0", "element 0 3 = 13");
        EDGES.edge("Promise 37: n elements: all of 60, of each sort",
            "row 0 0 60", "row 1 0 60", "put 0 0 1", "put 0 59 2", "shift 0 0 1 0 60 = 60", "element 1 0 = 1", "element 1 59 = 2", "row 0 1 60",
            "row 1 1 60", "put 0 59 3", "shift 0 0 1 0 60 = 60", "element 1 59 = 3", "row 0 3 60", "row 1 3 60", "put 0 59 LMAX",
            "shift 0 0 1 0 60 = 60", "element 1 59 = LMAX", "row 0 4 60", "row 1 4 60", "put 0 59 9", "shift 0 0 1 0 60 = 60", "element 1 59 = 1");
    }

    private static void shift() {
        EDGES.edge("Promise 37: BAD", SIX,
            "shift -1 0 0 0 1 = BAD", "shift 6 0 0 0 1 = BAD", "shift 0 0 -1 0 1 = BAD", "shift 0 0 6 0 1 = BAD", "shift MIN 0 0 0 1 = BAD",
            "shift MAX 0 0 0 1 = BAD", "shift 0 0 MIN 0 1 = BAD", "shift 0 0 MAX 0 1 = BAD", "shift 6 0 1 0 1 = BAD", "shift 1 0 6 0 1 = BAD");
        EDGES.edge("Promise 37: -11 (either)", SIX,
            "shift 0 0 1 0 1 = -11", "shift 1 0 0 0 1 = -11", "shift 1 0 2 0 1 = -11", "shift 1 0 1 0 1 = -11", "shift 1 0 0 0 0 = -11");
        EDGES.edge("Promise 37: -12 (no ROWS)", SIX,
            "claim 1 0 0", "suit 0>1:0=mw@0/0", "keep 1 0", "keep 2 0", "shift 0 0 1 0 1 = -12", "shift 1 0 0 0 1 = -12", "shift 1 0 2 0 0 = -12",
            "shift 1 0 1 0 0 = -12", "taken 1 1 = 1", "element 0 0 = 10");
        EDGES.edge("Promise 37: -12 (of unlike sorts)",
            "row 0 0 3", "row 1 1 3", "row 2 2 3", "row 3 3 3", "row 4 4 3", "shift 0 0 1 0 1 = -12", "shift 1 0 2 0 1 = -12",
            "shift 2 0 3 0 1 = -12", "shift 3 0 4 0 1 = -12", "shift 4 0 0 0 1 = -12", "shift 3 0 2 0 0 = -12", "shift 0 0 4 0 3 = -12");
        EDGES.edge("Promise 37: -13 (n below 0, too)", SIX,
            "row 1 2 4", "shift 0 0 1 0 -1 = -13", "shift 0 0 1 0 MIN = -13", "shift 0 1 0 1 -1 = -13", "shift 0 6 1 4 -1 = -13");
        EDGES.edge("Promise 37: -13: i and j", SIX,
            "row 1 2 4", "shift 0 -1 1 0 1 = -13", "shift 0 0 1 -1 1 = -13", "shift 0 6 1 0 1 = -13", "shift 0 0 1 4 1 = -13",
            "shift 0 7 1 0 0 = -13", "shift 0 0 1 5 0 = -13", "shift 0 -1 1 0 0 = -13", "shift 0 0 1 -1 0 = -13", "shift 0 MIN 1 0 1 = -13",
            "shift 0 MAX 1 0 1 = -13", "shift 0 0 1 MIN 1 = -13", "shift 0 0 1 MAX 1 = -13", "element 1 0 = 0", "shift 0 5 1 3 1 = 1",
            "element 1 3 = 15");
        EDGES.edge("Promise 37: -13: more than either has from there on", SIX,
            "row 1 2 4", "shift 0 0 1 0 5 = -13", "shift 1 0 0 0 5 = -13", "shift 0 3 1 0 4 = -13", "shift 0 0 1 2 3 = -13",
            "shift 0 1 0 2 5 = -13", "shift 0 1 1 1 MAX = -13", "shift 0 MAX 1 MAX MAX = -13", "element 1 0 = 0", "element 1 3 = 0",
            "shift 0 2 1 0 4 = 4", "element 1 3 = 15");
    }

    private static void taken() {
        EDGES.edge("Promise 38: for an ENDING of KIND k (0 .. 6), or under it: its KIND: MERITS, PART under it", OF_ALL_KINDS,
            "keep 0 1", "keep 1 6", "taken 0 0 = 1", "taken 0 1 = 1", "taken 0 2 = -12", "taken 0 3 = -12", "taken 0 4 = -12", "taken 0 5 = -12",
            "taken 0 6 = -12", "taken 1 0 = 6", "taken 1 1 = 6", "taken 1 2 = -12", "taken 1 3 = -12", "taken 1 4 = -12", "taken 1 5 = -12",
            "taken 1 6 = 6");
        EDGES.edge("Promise 38: for an ENDING of KIND k, or under it: FORM, UNDONE under it", OF_ALL_KINDS,
            "keep 0 2", "keep 1 5", "taken 0 0 = 2", "taken 0 1 = -12", "taken 0 2 = 2", "taken 0 3 = -12", "taken 0 4 = -12", "taken 0 5 = -12",
            "taken 0 6 = -12", "taken 1 0 = 5", "taken 1 1 = -12", "taken 1 2 = 5", "taken 1 3 = -12", "taken 1 4 = -12", "taken 1 5 = 5",
            "taken 1 6 = -12");
        EDGES.edge("Promise 38: for an ENDING of KIND k, or under it: AGREED, DEFAULT under it", OF_ALL_KINDS,
            "keep 0 3", "keep 1 4", "taken 0 0 = 3", "taken 0 1 = -12", "taken 0 2 = -12", "taken 0 3 = 3", "taken 0 4 = -12", "taken 0 5 = -12",
            "taken 0 6 = -12", "taken 1 0 = 4", "taken 1 1 = -12", "taken 1 2 = -12", "taken 1 3 = 4", "taken 1 4 = 4", "taken 1 5 = -12",
            "taken 1 6 = -12");
        EDGES.edge("Promise 38: BAD", OF_ALL_KINDS,
            "keep 0 1", "taken 0 -1 = BAD", "taken 0 7 = BAD", "taken 0 MIN = BAD", "taken 0 MAX = BAD", "taken -1 0 = BAD", "taken 6 0 = BAD",
            "taken MIN 0 = BAD", "taken MAX 0 = BAD");
        EDGES.edge("Promise 38: BAD, ahead of -11 and -12", OF_ALL_KINDS, "row 1 2 3", "taken 0 7 = BAD", "taken 0 -1 = BAD", "taken 1 7 = BAD",
            "taken 1 -1 = BAD", "taken 0 0 = -11", "taken 1 0 = -12");
        EDGES.edge("Promise 38: -11", "taken 0 0 = -11", "taken 5 6 = -11", "row 0 2 3", "keep 0 -1", "taken 0 0 = -11");
        EDGES.edge("Promise 38: -12: a ROW of whatever sort", "row 0 0 1", "row 1 1 1", "row 2 2 0", "row 3 3 1", "row 4 4 1", "taken 0 0 = -12",
            "taken 1 1 = -12", "taken 2 2 = -12", "taken 3 3 = -12", "taken 4 4 = -12");
    }

    private static void takenAsItIsNow() {
        EDGES.edge("Promise 38: (as it is now)",
            "claim 1 0 0", "suit 0>1:0=p1w@50/0", "keep 2 0", "taken 2 6 = 6", "taken 2 1 = 6", "undone 0 9999", "taken 2 6 = -12", "taken 2 1 = -12",
            "taken 2 5 = 5", "taken 2 2 = 5", "taken 2 0 = 5", "undo", "taken 2 6 = 6", "taken 2 2 = -12", "redo", "taken 2 2 = 5");
    }

    private static void count() {
        EDGES.edge("Promise 39: 0 SHOES", "count 0 = 0", "shoe 0 1 1 0", "shoe 0 0 1 0 = BAD", "count 0 = 1", "39* shoe 0 1 1 0",
            "shoe 0 1 1 0 = FULL", "count 0 = 40");
        EDGES.edge("Promise 39: 1 CLAIMS", "count 1 = 0", "claim 1 0 0", "claim 0 0 0 = BAD", "count 1 = 1", "31* claim 1 0 0",
            "claim 1 0 0 = FULL", "count 1 = 32");
        EDGES.edge("Promise 39: 2 SUITS", "count 2 = 0", "claim 1 0 0", "suit 0>1:0=mw@0/0", "suit 0>0:0=mw@0/0 = -102", "count 2 = 1",
            "39* suit 0>1:0=mw@0/0", "suit = FULL", "count 2 = 40");
        EDGES.edge("Promise 39: 3 bytes on THE TAPE", "count 3 = 0", "feed 3 0", "count 3 = 3", "29* feed 4 0", "count 3 = 119", "feed 2 0 = FULL",
            "count 3 = 119", "feed 1 0", "count 3 = 120", "law 0 = -100", "count 3 = 0");
        EDGES.edge("Promise 39: 4 wished ones", "count 4 = 0", "6* claim 1 0 0", "wish 0 1", "count 4 = 1", "wish 1 0", "wish 2 0", "wish 3 0",
            "wish 4 0", "wish 5 0 = FULL", "count 4 = 5", "order 0 0 = 1", "count 4 = 5", "unwish = 5", "count 4 = 0");
        EDGES.edge("Promise 39: 5 changes that may be undone back", "count 5 = 0", "shoe 0 1 1 0", "count 5 = 0", "moveShoe 0 1", "moveShoe 0 2",
            "count 5 = 2", "undo = 1", "count 5 = 1", "redo = 0", "count 5 = 2", "undo", "undo", "count 5 = 0");
        EDGES.edge("Promise 39: 6 bodies that ran in the latest act()", "count 6 = 0", "claim 1 0 0", "suit 0>1:0=dw@0/0", "count 6 = 0",
            "act 0 3 1", "count 6 = 7", "act 0 2 1", "count 6 = 1", "act 1 2 1 = 0", "count 6 = 0");
        EDGES.edge("Promise 39: BAD", "count -1 = BAD", "count 7 = BAD", "count MIN = BAD", "count MAX = BAD");
    }
}
