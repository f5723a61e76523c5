/** Boundary cases of section 4 from ORDER on, and of promises 22 to 30, sentence by sentence. */
public final class EdgesOrdersTest {
    private static final Edges EDGES = new Edges("EdgesOrdersTest");
    private static final String[] NO_LAND_HEEDS = {"law 30 0", "law 31 0", "law 32 0", "law 33 0", "law 34 0", "law 35 0", "law 36 0",
        "law 37 0"};

    public static void main(String[] args) {
        wish();
        orderOfRows();
        orderByDays();
        orderByThoseAhead();
        order();
        unwish();
        joinedPeople();
        joined();
        ringOfLands();
        ringByJudgments();
        ring();
        hangsOn();
        hangs();
        needed();
        need();
        changes();
        changesThatAreKept();
        undoAndRedo();
        EDGES.end();
    }

    private static void wish() {
        EDGES.edge("Promise 22: A wished CLAIM, won or not: how many",
            "3* claim 1 0 0", "wish 2 1 = 1", "count 4 = 1", "wish 0 0 = 2", "wish 1 1 = 3", "count 4 = 3");
        EDGES.edge("Promise 22: BAD: no such CLAIM",
            "wish 0 0 = BAD", "claim 1 0 0", "wish -1 0 = BAD", "wish 1 0 = BAD", "wish 32 0 = BAD", "wish MIN 0 = BAD", "wish MAX 0 = BAD",
            "count 4 = 0", "wish 0 0 = 1");
        EDGES.edge("Promise 22: BAD: won or not",
            "claim 1 0 0", "wish 0 -1 = BAD", "wish 0 2 = BAD", "wish 0 MIN = BAD", "wish 0 MAX = BAD", "count 4 = 0", "wish 0 1 = 1");
        EDGES.edge("Promise 22: BAD (told)",
            "2* claim 1 0 0", "wish 0 1 = 1", "wish 0 1 = BAD", "wish 0 0 = BAD", "wish 1 1 = 2", "wish 0 1 = BAD", "wish 1 0 = BAD",
            "count 4 = 2", "unwish = 2", "wish 0 0 = 1");
        EDGES.edge("Promise 22: FULL: 5",
            "32* claim 1 0 0", "wish 0 1 = 1", "wish 1 1 = 2", "wish 2 1 = 3", "wish 3 1 = 4", "wish 31 1 = 5", "wish 30 1 = FULL",
            "wish 30 0 = FULL", "count 4 = 5", "unwish = 5", "wish 30 1 = 1");
        EDGES.edge("Promise 22: BAD, ahead of FULL",
            "6* claim 1 0 0", "wish 0 1", "wish 1 1", "wish 2 1", "wish 3 1", "wish 4 1 = 5", "wish 4 0 = BAD", "wish 0 1 = BAD",
            "wish 6 1 = BAD", "wish 5 2 = BAD", "wish 5 1 = FULL");
    }

    private static void orderOfRows() {
        EDGES.edge("4. ORDER of wished CLAIMS (1 .. 5 told): one",
            "claim 1 0 0", "wish 0 1", "order 0 0 = 1", "order 0 1 = 1", "suit 0>1:0=mw@0/0", "order 0 0 = 0", "order 0 1 = 1");
        EDGES.edge("4. ORDER of wished CLAIMS (1 .. 5 told): five, of which one closes all",
            "5* claim 1 0 0", "wish 4 1", "wish 3 1", "wish 2 1", "wish 1 1", "wish 0 1 = 5", "order 0 0 = 1", "order 0 1 = 12345");
        EDGES.edge("4. ORDER: the most that can be asked: how many: five, and none",
            "5* claim 1 0 0", "wish 0 1", "wish 1 1", "wish 2 1", "wish 3 1", "wish 4 1 = 5", "law 0 0", "order 0 0 = 5", "order 0 1 = 12345",
            "law 0 1", "suit 0>1:0=fl@0/0", "order 0 0 = 0", "order 0 1 = 12345");
        EDGES.edge("4. ORDER: the first such row (places, in order of digits): the very last row",
            "claim 1 0 0", "claim 1 1 0", "claim 1 2 0", "claim 1 3 0", "claim 1 4 0", "wish 0 1", "wish 1 1", "wish 2 1", "wish 3 1", "wish 4 1",
            "suit 0>1:1=mw@4/0", "suit 0>1:2=mw@3/0", "suit 0>1:3=mw@2/0", "suit 0>1:4=mw@1/0", "order 0 0 = 5", "order 0 1 = 54321",
            "order 10 0 = 4", "order 10 1 = 43215", "order 20 0 = 3", "order 20 1 = 32145", "order 40 0 = 1", "order 40 1 = 12345");
        EDGES.edge("4. ORDER: places, not numbers of CLAIMS",
            "claim 1 0 1", "claim 1 0 0", "claim 1 0 2", "claim 1 1 0", "wish 3 1", "wish 1 0", "wish 0 1", "law 0 a&w", "order 0 0 = 3",
            "order 0 1 = 123", "unwish", "wish 3 1", "wish 0 1", "wish 1 0", "order 0 0 = 3", "order 0 1 = 132");
        EDGES.edge("4. ORDER: those that can't be asked stay in the row",
            "claim 1 0 0", "claim 1 1 0", "claim 1 2 0", "suit 0>1:1=mw@0/0", "wish 0 1", "wish 1 1", "wish 2 1", "order 0 0 = 2",
            "order 0 1 = 123", "unwish", "wish 1 1", "order 0 0 = 0", "order 0 1 = 1");
    }

    private static void orderByDays() {
        EDGES.edge("4. ORDER: on DAYS d, d + 1, ..: the i-th of the row on DAY d + i",
            "claim 1 0 0", "claim 1 1 0", "claim 1 2 0", "wish 0 1", "wish 1 1", "wish 2 1", "suit 0>1:0=mw@52/0", "order 490 0 = 3",
            "order 500 0 = 3", "order 500 1 = 123", "order 510 0 = 3", "order 510 1 = 123", "order 520 0 = 2", "order 520 1 = 123",
            "suit 0>1:1=mw@52/0", "order 500 0 = 3", "order 500 1 = 123", "order 510 0 = 2", "suit 0>1:2=mw@52/0", "order 490 0 = 3",
            "order 500 0 = 2", "order 510 0 = 1", "order 520 0 = 0");
        EDGES.edge("4. ORDER: the i-th of the row on DAY d + i, asked or not",
            "claim 1 0 0", "claim 1 1 0", "claim 1 2 0", "wish 0 1", "wish 1 1", "wish 2 1", "suit 0>1:0=mw@0/0", "suit 0>1:2=mw@52/0",
            "order 510 0 = 2", "order 510 1 = 312", "law 0 k=1&a&d<52&d", "order 510 0 = 3", "order 510 1 = 231", "order 500 0 = 3",
            "order 500 1 = 231", "order 490 0 = 2", "order 490 1 = 123");
        EDGES.edge("4. ORDER: of five on DAYS d to d + 4",
            "claim 1 0 0", "claim 1 1 0", "claim 1 2 0", "claim 1 3 0", "claim 1 4 0", "wish 0 1", "wish 1 1", "wish 2 1", "wish 3 1", "wish 4 1",
            "suit 0>1:0=mw@14/0", "order 100 0 = 5", "order 100 1 = 12345", "suit 0>1:1=mw@14/0", "suit 0>1:2=mw@14/0", "suit 0>1:3=mw@14/0",
            "order 100 0 = 5", "order 100 1 = 12345", "order 110 0 = 4", "order 110 1 = 12345", "suit 0>1:4=mw@14/0", "order 90 0 = 5",
            "order 100 0 = 4", "order 110 0 = 3");
        EDGES.edge("4. ORDER: on DAYS d, d + 1, ..: from DAY 9999 on",
            "claim 1 0 0", "claim 1 0 1", "claim 1 1 0", "wish 0 1", "wish 1 1", "wish 2 1", "order 99990 0 = 2", "order 99990 1 = 123",
            "law 0 a&d=2", "order 99990 0 = 3", "order 99990 1 = 123", "law 0 a&d=1", "order 99990 1 = 132", "shoe 5 0 1 9999",
            "suit 5>1:0=mw@9999/7", "law 7 d", "order 99997 0 = 1", "order 99997 1 = 123");
        EDGES.edge("4. ORDER: in LAND h",
            "2* claim 1 0 0", "wish 0 1", "wish 1 1", "law 3 h=3&l=3", "law 4 h=3|l=3", "order 3 0 = 1", "order 4 0 = 2", "order 0 0 = 1",
            "suit 0>1:0=mw@0/3", "order 3 0 = 0", "order 4 0 = 0", "law 34 0", "order 4 0 = 2");
        EDGES.edge("4. ORDER: brought by their PERSONS",
            "claim 1 0 0", "claim 203 0 0", "claim 100 0 0", "wish 0 1", "wish 1 1", "order 0 0 = 2", "wish 2 1", "order 0 0 = 2", "law 0 r",
            "order 0 0 = 2", "law 0 !r", "order 0 0 = 3", "shoe 2 0 1 0", "shoe 3 1 1 0", "order 0 0 = 3", "order 0 1 = 213",
            "moveShoe 0 3", "order 0 0 = 3", "order 0 1 = 123", "order 20 1 = 213", "law 20 0", "order 20 1 = 123");
    }

    private static void orderByThoseAhead() {
        EDGES.edge("4. ORDER: one that is CLOSED then by those brought ahead can't be asked",
            "3* claim 1 0 0", "wish 0 1", "wish 1 1", "wish 2 1", "order 0 0 = 1", "law 0 d=1", "order 0 0 = 2", "order 0 1 = 123", "law 0 d=2",
            "order 0 0 = 2", "law 0 d=3", "order 0 0 = 3");
        EDGES.edge("4. ORDER: those that can't be asked close nothing behind them",
            "4* claim 1 0 0", "wish 0 1", "wish 1 1", "wish 2 1", "wish 3 1", "law 0 d=1", "order 0 0 = 2", "suit 0>1:0=mw@0/0", "order 0 0 = 2",
            "law 0 d=1|d=3&l", "order 0 0 = 2");
        EDGES.edge("4. ORDER: each that is asked is a SUIT of its own that ends by merits, in LAND h",
            "2* claim 1 0 0", "wish 0 1", "wish 1 1", "law 6 k=1&l=6&h=6&d=1", "order 6 0 = 1", "law 6 k-1", "order 6 0 = 2", "law 6 l-6",
            "order 6 0 = 2", "law 36 0", "law 6 1", "order 6 0 = 1");
        EDGES.edge("4. ORDER: each that is asked is a SUIT of its own: of its CLAIM alone",
            "claim 1 0 0", "claim 1 1 1", "claim 1 0 2", "wish 0 1", "wish 1 1", "wish 2 1", "law 0 a", "order 0 0 = 2", "order 0 1 = 123",
            "law 0 a&s", "order 0 0 = 3", "law 0 c", "order 0 0 = 3", "law 0 !a&!s&!c", "order 0 0 = 2", "order 0 1 = 123");
        EDGES.edge("4. ORDER: won as told",
            "claim 1 0 0", "claim 1 0 1", "wish 0 1", "wish 1 0", "law 0 w", "order 0 0 = 2", "order 0 1 = 21", "law 0 !w", "order 0 1 = 12",
            "unwish", "wish 0 0", "wish 1 1", "order 0 0 = 2", "order 0 1 = 21");
        EDGES.edge("4. ORDER: for those behind it: no SUITS come of it",
            "2* claim 1 0 0", "wish 0 1", "wish 1 1", "order 0 0 = 1", "count 2 = 0", "left 10 -1 = 2", "met 1 -1 10 = NOT", "clash -1 = 0");
        EDGES.edge("4. ORDER: by all SUITS, though SUITS are FULL",
            "claim 1 0 0", "claim 1 1 0", "39* suit 2>3:0=mw@0/0", "wish 0 1", "wish 1 1", "order 0 0 = 2", "suit 0>1:0=mw@0/0 = 39",
            "order 0 0 = 1", "order 0 1 = 12", "count 2 = 40");
    }

    private static void order() {
        EDGES.edge("Promise 23: how many (what 0), the row (1). The wished ones stay",
            "2* claim 1 0 0", "wish 1 1", "wish 0 1", "order 0 0 = 1", "order 0 1 = 12", "order 0 0 = 1", "count 4 = 2", "wish 0 1 = BAD");
        EDGES.edge("Promise 23: BAD: dl",
            "claim 1 0 0", "wish 0 1", "order -1 0 = BAD", "order 8 0 = BAD", "order 9 0 = BAD", "order 99998 0 = BAD", "order 100000 0 = BAD",
            "order MIN 0 = BAD", "order MAX 0 = BAD", "order 7 0 = 1", "order 99997 0 = 1");
        EDGES.edge("Promise 23: BAD: what",
            "claim 1 0 0", "wish 0 1", "order 0 -1 = BAD", "order 0 2 = BAD", "order 0 MIN = BAD", "order 0 MAX = BAD", "order 0 1 = 1");
        EDGES.edge("Promise 23: STATE: none is told",
            "order 0 0 = STATE", "order 0 1 = STATE", "claim 1 0 0", "order 0 0 = STATE", "wish 0 1", "order 0 0 = 1", "unwish",
            "order 0 0 = STATE", "order 99997 1 = STATE");
        EDGES.edge("Promise 23: BAD, ahead of STATE",
            "order -1 0 = BAD", "order 8 0 = BAD", "order 100000 0 = BAD", "order 0 2 = BAD", "order 0 -1 = BAD", "order 0 0 = STATE");
    }

    private static void unwish() {
        EDGES.edge("Promise 24: Wished ones are none: how many there were",
            "unwish = 0", "5* claim 1 0 0", "unwish = 0", "wish 0 1", "unwish = 1", "count 4 = 0", "unwish = 0", "wish 0 1", "wish 1 1",
            "wish 2 1", "wish 3 1", "wish 4 1", "unwish = 5", "count 4 = 0", "count 1 = 5");
    }

    private static void joinedPeople() {
        EDGES.edge("4. JOINED: told PERSONS (1 .. 8): the first and the last of all",
            "claim 1 0 0", "suit 0>1:0=mw@0/0", "joined 0 1 0 = 1", "joined 0 1 1 = 1", "joined 0 0x80000 0 = 1", "joined 0 0x80000 1 = 0x80000",
            "joined 0 0x80001 1 = 0x80001");
        EDGES.edge("4. JOINED: told PERSONS (1 .. 8): eight, and not nine",
            "claim 1 0 0", "suit 0>1:0=mw@0/0", "joined 0 255 0 = 8", "joined 0 255 1 = 255", "joined 0 511 0 = BAD", "joined 0 0xff000 0 = 8",
            "joined 0 0xff000 1 = 0xff000", "joined 0 0xff800 0 = BAD", "joined 0 0xfffff 1 = BAD", "joined 0 0 0 = BAD", "joined 0 0 1 = BAD");
        EDGES.edge("4. JOINED: the fewest PEOPLE: eight who are one",
            "claim 1 0 0", "suit 0>1:0=mw@0/0", "shoe 0 19 1 0", "shoe 1 19 1 0", "shoe 2 19 1 0", "shoe 3 19 1 0", "shoe 4 19 1 0",
            "shoe 5 19 1 0", "shoe 6 19 1 0", "joined 0 255 0 = 2", "joined 0 255 1 = 0x80080", "shoe 7 19 1 0", "joined 0 255 0 = 1",
            "joined 0 255 1 = 0x80000", "joined 0 1 1 = 1", "joined 0 0x80001 1 = 0x80000");
        EDGES.edge("4. JOINED: the fewest, though the one who stands for most is not among them",
            "claim 1 0 0", "suit 0>1:0=mw@0/0", "shoe 0 10 1 0", "shoe 1 10 1 0", "shoe 2 10 1 0", "shoe 3 10 1 0", "shoe 0 11 1 0",
            "shoe 1 11 1 0", "shoe 4 11 1 0", "shoe 2 12 1 0", "shoe 3 12 1 0", "shoe 5 12 1 0", "joined 0 63 0 = 2", "joined 0 63 1 = 0x1800",
            "joined 0 31 0 = 2", "joined 0 31 1 = 1040");
        EDGES.edge("4. JOINED: (the least as a number of those of so many)",
            "claim 1 0 0", "suit 0>1:0=mw@0/0", "shoe 5 9 1 0", "shoe 6 9 1 0", "joined 0 96 1 = 512", "shoe 5 8 1 0", "shoe 6 8 1 0",
            "joined 0 96 1 = 256", "shoe 5 6 1 0", "joined 0 96 1 = 64", "shoe 6 5 1 0", "joined 0 96 1 = 32", "shoe 5 0 1 0", "shoe 6 0 1 0",
            "joined 0 96 1 = 1", "joined 0 96 0 = 1", "joined 0 64 1 = 1", "joined 0 224 1 = 129", "joined 0 224 0 = 2");
        EDGES.edge("4. JOINED: each told one BOUND as one of them: not the other way round",
            "claim 1 0 0", "suit 0>1:0=mw@0/0", "shoe 9 0 1 0", "shoe 9 1 1 0", "joined 0 3 0 = 2", "joined 0 3 1 = 3", "joined 0 0x203 1 = 3",
            "joined 0 0x200 1 = 1");
        EDGES.edge("4. JOINED: BOUND by rows of SHOES, too",
            "claim 1 0 0", "suit 0>1:0=mw@0/0", "shoe 0 1 1 0", "shoe 1 2 1 0", "shoe 2 3 1 0", "joined 0 15 0 = 2", "joined 0 15 1 = 9",
            "law 20 1", "joined 0 15 0 = 1", "joined 0 15 1 = 8");
        EDGES.edge("4. JOINED: on its DAY",
            "claim 1 0 0", "suit 0>1:0=mw@50/0", "shoe 0 9 1 50", "shoe 1 9 1 51", "joined 0 3 0 = 2", "moveShoe 1 50", "joined 0 3 0 = 1",
            "moveShoe 0 9999", "joined 0 3 0 = 2", "law 20 d=0", "moveShoe 0 50", "joined 0 3 0 = 1", "moveShoe 0 49", "joined 0 3 0 = 2");
        EDGES.edge("4. JOINED: (by BINDS of its LAND)",
            "claim 1 0 0", "suit 0>1:0=mw@50/6", "shoe 0 9 1 0", "shoe 1 9 1 0", "law 20 0", "joined 0 3 0 = 1", "law 26 h-6", "joined 0 3 0 = 2",
            "law 26 h=6", "joined 0 3 0 = 1");
        EDGES.edge("4. JOINED: whoever the SUIT's sides are, and however it ended",
            "claim 1 0 0", "suit 0>1:0=fl@50/0", "shoe 5 7 1 0", "shoe 6 7 1 0", "joined 0 96 1 = 128", "undone 0 50", "won 0 1",
            "joined 0 96 1 = 128", "joined 0 97 1 = 129");
    }

    private static void joined() {
        EDGES.edge("Promise 25: how many (what 0), as bits (1). BAD: what",
            "claim 1 0 0", "suit 0>1:0=mw@0/0", "joined 0 6 0 = 2", "joined 0 6 1 = 6", "joined 0 6 -1 = BAD", "joined 0 6 2 = BAD",
            "joined 0 6 MIN = BAD", "joined 0 6 MAX = BAD");
        EDGES.edge("Promise 25: BAD: the SUIT",
            "joined 0 1 0 = BAD", "claim 1 0 0", "suit 0>1:0=mw@0/0", "joined -1 1 0 = BAD", "joined 1 1 0 = BAD", "joined MIN 1 0 = BAD",
            "joined MAX 1 0 = BAD", "joined 40 1 0 = BAD");
        EDGES.edge("Promise 25: BAD: told PERSONS (bits; 1 to 8 of them)",
            "claim 1 0 0", "suit 0>1:0=mw@0/0", "joined 0 0 0 = BAD", "joined 0 -1 0 = BAD", "joined 0 MIN 0 = BAD", "joined 0 MAX 0 = BAD",
            "joined 0 0x100000 0 = BAD", "joined 0 0x100001 0 = BAD", "joined 0 0x40000000 0 = BAD", "joined 0 0x1ff 0 = BAD",
            "joined 0 0xfffff 0 = BAD");
    }

    private static void ringOfLands() {
        EDGES.edge("4. RING: the fewest LANDS (2 at least): a LAND that heeds itself is none",
            NO_LAND_HEEDS, "law 30 l=0", "law 33 l=3", "law 37 l=7", "ring 0 = NOT", "ring 1 = NOT", "law 37 l=3|l=7", "ring 0 = NOT",
                "law 33 l=3|l=7", "ring 0 = 2", "ring 1 = 48");
        EDGES.edge("4. RING: that heed one another: not one the other alone",
            NO_LAND_HEEDS, "law 30 l=1", "ring 0 = NOT", "law 31 l=2", "ring 0 = NOT", "law 32 l=3", "ring 0 = NOT", "law 33 l=1", "ring 0 = 3",
                "ring 1 = 234", "law 33 l=0", "ring 0 = 4", "ring 1 = 1234");
        EDGES.edge("4. RING: all eight LANDS",
            NO_LAND_HEEDS, "law 30 l=7", "law 31 l=0", "law 32 l=1", "law 33 l=2", "law 34 l=3", "law 35 l=4", "law 36 l=5", "law 37 l=6",
                "ring 0 = 8", "ring 1 = 18765432", "law 34 0", "ring 0 = NOT", "ring 1 = NOT");
        EDGES.edge("4. RING: all eight LANDS, with the least digits and the greatest behind the first",
            NO_LAND_HEEDS, "law 30 l=1", "law 31 l=2", "law 32 l=3", "law 33 l=4", "law 34 l=5", "law 35 l=6", "law 36 l=7", "law 37 l=0",
                "ring 0 = 8", "ring 1 = 12345678", "law 37 l=1", "ring 0 = 7", "ring 1 = 2345678", "law 37 l=6", "ring 0 = 2", "ring 1 = 78");
        EDGES.edge("4. RING: the fewest LANDS, ahead of the first",
            NO_LAND_HEEDS, "law 30 l=1", "law 31 l=2", "law 32 l=0", "law 36 l=7", "law 37 l=6", "ring 0 = 2", "ring 1 = 78", "law 36 0",
                "ring 0 = 3", "ring 1 = 123");
        EDGES.edge("4. RING: the first (from its least LAND on)",
            NO_LAND_HEEDS, "law 37 l=5", "law 35 l=6", "law 36 l=7", "ring 1 = 678", "law 34 l=2", "law 32 l=3", "law 33 l=4", "ring 1 = 345",
                "ring 0 = 3");
        EDGES.edge("4. RING: the first (least next ones first)",
            NO_LAND_HEEDS, "law 31 l=5|l=3|l=4", "law 33 l=6", "law 34 l=6", "law 35 l=2", "law 36 l=1", "law 32 l=1", "ring 0 = 3",
                "ring 1 = 247", "law 33 0", "ring 1 = 257", "law 34 0", "ring 1 = 263");
        EDGES.edge("4. RING: NOT: none", NO_LAND_HEEDS, "ring 0 = NOT", "ring 1 = NOT");
        EDGES.edge("4. RING: without LAWS all LANDS heed one another", "ring 0 = 2", "ring 1 = 12", "law 30 0", "ring 1 = 23", "law 31 0",
            "ring 1 = 34", "law 32 0", "ring 1 = 45", "law 33 0", "ring 1 = 56", "law 34 0", "ring 1 = 67", "law 35 0", "ring 1 = 78",
            "law 36 0", "ring 1 = NOT");
    }

    private static void ringByJudgments() {
        EDGES.edge("4. RING: HEEDS of h for a judgment by merits, won, of LAND l, of that DAY (d 0)",
            NO_LAND_HEEDS, "law 32 k=1&w=1&l=5&h=2&d=0", "law 35 k=1&w=1&l=2&h=5&d=0", "ring 1 = 36", "law 32 k-1", "ring 1 = NOT", "law 32 w-1",
                "ring 1 = NOT", "law 32 d", "ring 1 = NOT", "law 32 h-2", "ring 1 = NOT", "law 32 l-5", "ring 1 = NOT", "law 32 l-4",
                "ring 1 = 36");
        EDGES.edge("4. RING: HEEDS gives not 0", NO_LAND_HEEDS, "law 32 -1", "law 35 9999", "ring 1 = 36");
        EDGES.edge("4. RING: NAMES that are not of HEEDS are 0", NO_LAND_HEEDS, "law 32 1", "law 35 a|s|c|r|f|n", "ring 0 = NOT",
            "law 35 a+s+c+r+f+n=0", "ring 1 = 36");
        EDGES.edge("4. RING: whatever has been asked ahead of it",
            NO_LAND_HEEDS, "law 32 d=0&w=1&k=1", "law 35 l=2&h=5", "claim 1 0 0", "suit 0>1:0=fl@1/7", "counts 0 9 3 = 0", "ring 1 = 36",
                "met 0 -1 90 = NOT", "ring 1 = 36");
    }

    private static void ring() {
        EDGES.edge("Promise 26: how many (what 0), digits (1). BAD",
            "ring 0 = 2", "ring 1 = 12", "ring -1 = BAD", "ring 2 = BAD", "ring MIN = BAD", "ring MAX = BAD");
        EDGES.edge("Promise 26: BAD, ahead of NOT", NO_LAND_HEEDS, "ring -1 = BAD", "ring 2 = BAD", "ring 0 = NOT");
    }

    private static void hangsOn() {
        EDGES.edge("4. HANGS: the first SHOE without which it would not be",
            "claim 1 0 0", "suit 0>1:0=mw@0/0", "shoe 8 9 1 0", "shoe 3 1 1 0", "shoe 2 0 1 0", "hangs 0 203 0 = 1", "hangs 0 201 0 = 2",
            "hangs 0 3 0 = 1", "hangs 0 302 0 = 1");
        EDGES.edge("4. HANGS: the first SHOE: 0 and 39",
            "claim 1 0 0", "suit 0>1:0=mw@0/0", "shoe 2 0 1 0", "38* shoe 8 9 1 0", "shoe 3 1 1 0 = 39", "hangs 0 201 0 = 0", "hangs 0 3 0 = 39",
            "hangs 0 203 0 = 0");
        EDGES.edge("4. HANGS: NOT: none: where no SHOE is trodden",
            "claim 1 0 0", "suit 0>1:0=mw@0/0", "hangs 0 -1 0 = NOT", "shoe 0 1 1 0", "shoe 1 0 1 0", "hangs 0 -1 0 = NOT", "hangs 0 1 0 = NOT");
        EDGES.edge("4. HANGS: NOT: none: where there is another row of SHOES",
            "claim 1 0 0", "suit 0>1:0=mw@0/0", "shoe 2 0 1 0", "hangs 0 201 0 = 0", "shoe 2 3 1 0", "shoe 3 0 1 0", "hangs 0 201 0 = NOT",
            "moveShoe 2 1", "hangs 0 201 0 = 0", "hangs 0 201 10 = NOT");
        EDGES.edge("4. HANGS: a SHOE that both rows tread",
            "claim 1 0 0", "suit 0>1:0=mw@0/0", "law 20 n<4", "shoe 2 3 1 0", "shoe 2 4 1 0", "shoe 3 5 1 0", "shoe 4 5 1 0", "shoe 5 0 1 0",
            "hangs 0 201 0 = 4");
        EDGES.edge("4. HANGS: NOT: none: where another SUIT closes it without the SHOE",
            "claim 1 0 0", "suit 0>1:0=mw@0/0", "shoe 2 0 1 0", "hangs 0 201 0 = 0", "suit 2>1:0=mw@0/0", "hangs 0 201 0 = NOT", "undone 1 5",
            "hangs 0 201 50 = 0", "hangs 0 201 40 = NOT");
        EDGES.edge("4. HANGS: NOT: none: where the other way round closes it without the SHOE",
            "claim 1 0 0", "suit 0>1:0=mw@0/0", "shoe 2 0 1 0", "shoe 3 1 1 0", "hangs 0 203 0 = 0", "shoe 2 1 1 0", "hangs 0 203 0 = 0",
            "shoe 3 0 1 0", "hangs 0 203 0 = NOT");
        EDGES.edge("4. HANGS: without the first step a SHOE binds at another one",
            "claim 1 0 0", "suit 0>1:0=mw@0/0", "law 20 n=s", "shoe 2 3 1 0", "shoe 3 0 2 0", "hangs 0 201 0 = 0", "shoe 2 0 1 0",
            "hangs 0 201 0 = NOT", "moveShoe 2 9", "hangs 0 201 0 = 0");
        EDGES.edge("4. HANGS: a SHOE that binds as the sixth alone",
            "claim 1 0 0", "suit 0>1:0=mw@0/0", "law 20 s=2|n=6", "2* shoe 7 6 2 0", "2* shoe 6 5 2 0", "2* shoe 5 4 2 0", "2* shoe 4 3 2 0",
            "2* shoe 3 2 2 0", "shoe 2 0 1 0 = 10", "hangs 0 701 0 = 10", "hangs 0 601 0 = BAD");
        EDGES.edge("4. HANGS: on d in h",
            "claim 1 0 0", "suit 0>1:0=mw@0/0", "shoe 2 0 1 50", "hangs 0 201 490 = BAD", "hangs 0 201 500 = 0", "law 27 0", "hangs 0 201 507 = BAD",
            "law 37 0", "hangs 0 1 507 = BAD", "hangs 0 1 506 = NOT");
        EDGES.edge("4. HANGS: the SHOE stands behind it as ahead",
            "claim 1 0 0", "suit 0>1:0=mw@0/0", "shoe 2 0 1 0", "hangs 0 201 0 = 0", "met 0 201 0 = 0", "bound 200 0 0 0 = 1", "count 0 = 1",
            "joined 0 5 0 = 1", "point 0 201 0 0 = 0", "hangs 0 201 0 = 0");
    }

    private static void hangs() {
        EDGES.edge("Promise 27: BAD (also: it is open)",
            "claim 1 0 0", "hangs 0 -1 0 = BAD", "shoe 2 0 1 0", "suit 0>1:0=mw@1/0", "hangs 0 -1 0 = BAD", "hangs 0 -1 10 = NOT",
            "hangs 0 203 10 = BAD", "hangs 0 201 10 = 0");
        EDGES.edge("Promise 27: BAD: the CLAIM",
            "hangs 0 -1 0 = BAD", "claim 1 0 0", "suit 0>1:0=mw@0/0", "hangs -1 -1 0 = BAD", "hangs 1 -1 0 = BAD", "hangs 32 -1 0 = BAD",
            "hangs MIN -1 0 = BAD", "hangs MAX -1 0 = BAD", "hangs 0 -1 0 = NOT");
        EDGES.edge("Promise 27: BAD: pq",
            "claim 1 0 0", "suit 0>1:0=mw@0/0", "hangs 0 -2 0 = BAD", "hangs 0 20 0 = BAD", "hangs 0 2000 0 = BAD", "hangs 0 1920 0 = BAD",
            "hangs 0 MIN 0 = BAD", "hangs 0 MAX 0 = BAD", "hangs 0 1 0 = NOT");
        EDGES.edge("Promise 27: BAD: dl",
            "claim 1 0 0", "suit 0>1:0=mw@0/0", "hangs 0 -1 -1 = BAD", "hangs 0 -1 8 = BAD", "hangs 0 -1 9 = BAD", "hangs 0 -1 99998 = BAD",
            "hangs 0 -1 100000 = BAD", "hangs 0 -1 MIN = BAD", "hangs 0 -1 MAX = BAD", "hangs 0 -1 99997 = NOT");
        EDGES.edge("Promise 27: NOT", "claim 1 0 0", "suit 0>1:0=mw@0/0", "hangs 0 -1 0 = NOT", "hangs 0 100 0 = NOT");
    }

    private static void needed() {
        EDGES.edge("4. NEED: the first SUIT without which it would be open",
            "claim 1 0 0", "suit 0>1:0=mw@0/0", "suit 0>1:0;3+fn=mw@0/0", "need 3 1 0 = 1", "suit 0>1:0;3-fn=mw@9/0", "need 3 1 0 = 1",
            "need 3 1 90 = 2", "need 3 100 0 = 1");
        EDGES.edge("4. NEED: or be found the other way",
            "claim 1 0 0", "suit 0>1:0;3+fn=mw@2/0", "suit 0>1:0;3-fn=mw@1/0", "need 3 1 20 = 0", "need 3 1 10 = 1", "suit 0>1:0;3+fn=mw@2/0",
            "need 3 1 20 = NOT", "suit 0>1:0;3-fn=mw@2/0", "point 3 1 20 0 = 2", "need 3 1 20 = 3");
        EDGES.edge("4. NEED: NOT: none",
            "claim 1 0 0", "suit 0>1:0;3+fn=mw@0/0", "need 3 1 0 = 0", "suit 0>1:0;3+fn=mw@0/0", "need 3 1 0 = NOT", "law 10 d=0",
            "need 3 1 0 = NOT", "law 17 l", "need 3 1 7 = BAD");
        EDGES.edge("4. NEED: the first SUIT: 0 and 39",
            "claim 1 0 0", "suit 0>1:0;3+fn=mw@0/0", "38* suit 0>1:0=mw@0/0", "suit 0>1:0;4-fn=mw@0/0", "need 3 1 0 = 0", "need 4 1 0 = 39");
        EDGES.edge("4. NEED: of like DAYS the greater number: without it the next one",
            "claim 1 0 0", "suit 0>1:0;3-fn=mw@0/0", "suit 0>1:0;3+fn=mw@0/0", "point 3 1 0 0 = 1", "need 3 1 0 = 1", "suit 0>1:0;3-fn=mw@0/0",
            "point 3 1 0 0 = 2", "need 3 1 0 = 2");
        EDGES.edge("4. NEED: the SUIT stands behind it as ahead",
            "claim 1 0 0", "suit 0>1:0;3+fn=mw@0/0", "need 3 1 0 = 0", "point 3 1 0 0 = 1", "count 2 = 1", "need 3 1 0 = 0");
        EDGES.edge("4. NEED: between p and q, on d in h",
            "claim 1 0 0", "suit 18>19:0;3+fn=mw@50/0", "suit 18>19:0;3+fn=mw@51/6", "law 16 l=6", "need 3 1819 500 = 0", "need 3 1918 500 = 0",
            "need 3 1819 490 = BAD", "need 3 1819 510 = NOT", "need 3 1819 506 = BAD", "need 3 1819 516 = 1", "need 3 1818 516 = BAD");
        EDGES.edge("4. NEED: of POINTS 0 and 31",
            "claim 1 0 0", "suit 0>1:0;0+fn=mw@0/0", "suit 0>1:0;31-fn=mw@0/0", "need 0 1 0 = 0", "need 31 1 0 = 1", "need 1 1 0 = BAD",
            "need 30 1 0 = BAD");
    }

    private static void need() {
        EDGES.edge("Promise 28: BAD (also: it is open)",
            "need 3 1 0 = BAD", "claim 1 0 0", "suit 0>1:0;3+fn;4+f=mw@1/0", "need 3 1 0 = BAD", "need 3 1 10 = 0", "need 4 1 10 = BAD",
            "need 5 1 10 = BAD", "need 3 2 10 = BAD");
        EDGES.edge("Promise 28: BAD: the POINT",
            "claim 1 0 0", "law 10 1", "suit 0>1:0;0+;31+=mw@0/0", "need -1 1 0 = BAD", "need 32 1 0 = BAD", "need MIN 1 0 = BAD",
            "need MAX 1 0 = BAD", "need 0 1 0 = 0", "need 31 1 0 = 0");
        EDGES.edge("Promise 28: BAD: pq",
            "claim 1 0 0", "suit 0>1:0;3+fn=mw@0/0", "need 3 -1 0 = BAD", "need 3 -2 0 = BAD", "need 3 20 0 = BAD", "need 3 2000 0 = BAD",
            "need 3 MIN 0 = BAD", "need 3 MAX 0 = BAD", "need 3 1 0 = 0");
        EDGES.edge("Promise 28: BAD: dl",
            "claim 1 0 0", "suit 0>1:0;3+fn=mw@0/0", "need 3 1 -1 = BAD", "need 3 1 8 = BAD", "need 3 1 9 = BAD", "need 3 1 99998 = BAD",
            "need 3 1 100000 = BAD", "need 3 1 MIN = BAD", "need 3 1 MAX = BAD", "need 3 1 99997 = 0");
    }

    private static void changes() {
        EDGES.edge("4. CHANGES: WON",
            "claim 1 0 0", "suit 0>1:0=mw@1/0", "won 0 0 = 1", "count 5 = 1", "undo = 0", "ofSuit 0 3 = 1", "redo = 0", "ofSuit 0 3 = 0",
            "won 0 1 = 0", "undo = 1", "ofSuit 0 3 = 0", "undo = 0", "ofSuit 0 3 = 1");
        EDGES.edge("4. CHANGES: UNDONE",
            "claim 1 0 0", "suit 0>1:0=mw@0/0", "undone 0 0 = 1", "count 5 = 1", "undo = 0", "ofSuit 0 6 = -1", "ofSuit 0 2 = 1",
            "met 0 -1 0 = 0", "redo = 0", "ofSuit 0 6 = 0", "ofSuit 0 2 = 5", "met 0 -1 0 = NOT");
        EDGES.edge("4. CHANGES: SHOES' DAYS",
            "2* shoe 0 1 1 0", "moveShoe 1 9999 = 0", "count 5 = 1", "undo = 0", "ofShoe 1 3 = 0", "bound 1 0 0 0 = 1", "redo = 0",
            "ofShoe 1 3 = 9999", "ofShoe 0 3 = 0");
        EDGES.edge("4. CHANGES: those that changed something",
            "claim 1 0 0", "suit 0>1:0=mw@1/0", "shoe 0 1 1 7", "won 0 1 = 1", "moveShoe 0 7 = 7", "count 5 = 0", "undo = STATE", "undone 0 1",
            "undone 0 1 = NOT", "count 5 = 1");
        EDGES.edge("4. CHANGES: those that changed something: others let what can be DONE AGAIN stand",
            "claim 1 0 0", "suit 0>1:0=mw@1/0", "shoe 0 1 1 7", "won 0 0", "undo", "won 0 1 = 1", "moveShoe 0 7 = 7", "redo = 0",
            "ofSuit 0 3 = 0");
        EDGES.edge("4. CHANGES: what else comes is none of them",
            "claim 1 0 0", "shoe 0 1 1 7", "suit 0>1:0=mw@1/0", "moveShoe 0 8", "undo = 0", "claim 1 0 0", "shoe 0 1 1 7", "suit 0>1:0=mw@1/0",
            "law 0 0", "wish 0 1", "keep 0 0", "row 1 1 4", "shoes 1 0 1 = 0", "unwish", "feed 1 0", "act 0 0 0", "count 5 = 0", "redo = 0",
            "ofShoe 0 3 = 8");
        EDGES.edge("4. CHANGES: a refused call is none",
            "claim 1 0 0", "suit 0>1:0=mw@5/0", "shoe 0 1 1 7", "moveShoe 0 8", "undo = 0", "won 0 2 = BAD", "undone 0 4 = BAD",
            "moveShoe 0 10000 = BAD", "won 1 0 = BAD", "count 5 = 0", "redo = 0");
        EDGES.edge("4. CHANGES: UNDONE back, the latest first",
            "claim 1 0 0", "suit 0>1:0=mw@1/0", "shoe 0 1 1 7", "won 0 0", "moveShoe 0 8", "undone 0 1", "moveShoe 0 9", "count 5 = 4",
            "undo = 3", "ofShoe 0 3 = 8", "ofSuit 0 6 = 1", "undo = 2", "ofSuit 0 6 = -1", "ofShoe 0 3 = 8", "undo = 1", "ofShoe 0 3 = 7",
            "ofSuit 0 3 = 0", "undo = 0", "ofSuit 0 3 = 1", "undo = STATE", "redo = 3", "ofSuit 0 3 = 0", "redo = 2", "ofShoe 0 3 = 8",
            "redo = 1", "ofSuit 0 6 = 1", "redo = 0", "ofShoe 0 3 = 9", "redo = STATE");
        EDGES.edge("4. CHANGES: DONE AGAIN (as long as no other came behind)",
            "shoe 0 1 1 0", "moveShoe 0 1", "moveShoe 0 2", "moveShoe 0 3", "undo = 2", "undo = 1", "redo = 1", "undo = 1", "moveShoe 0 9 = 1",
            "redo = STATE", "count 5 = 2", "undo = 1", "ofShoe 0 3 = 1", "redo = 0", "ofShoe 0 3 = 9", "redo = STATE");
        EDGES.edge("4. CHANGES: DONE AGAIN: one like it that came behind is another one",
            "shoe 0 1 1 0", "moveShoe 0 1", "moveShoe 0 2", "undo = 1", "moveShoe 0 2 = 1", "redo = STATE", "undo = 1", "redo = 0");
    }

    /** A SHOE, and so many changes of its DAY, from 0 on. */
    private static String[] moves(int times) {
        String[] told = new String[times + 1];
        told[0] = "shoe 0 1 1 0";
        for (int i = 1; i <= times; i++) {
            told[i] = "moveShoe 0 " + i + " = " + (i - 1);
        }
        return told;
    }

    private static void changesThatAreKept() {
        EDGES.edge("4. CHANGES: 40 at most are kept: all of 40", moves(40),
            "count 5 = 40", "40* undo", "ofShoe 0 3 = 0", "undo = STATE", "redo = 39", "39* redo", "ofShoe 0 3 = 40", "redo = STATE",
            "count 5 = 40");
        EDGES.edge("4. CHANGES: 40 at most are kept: the first of 41 is not", moves(41),
            "count 5 = 40", "undo = 39", "redo = 0", "count 5 = 40", "40* undo", "ofShoe 0 3 = 1", "undo = STATE", "redo = 39", "39* redo",
            "ofShoe 0 3 = 41", "redo = STATE");
        String[] inTurn = new String[42];
        inTurn[0] = "2* shoe 0 1 1 0";
        for (int i = 1; i <= 41; i++) {
            inTurn[i] = "moveShoe " + i % 2 + " " + i + " = " + Math.max(0, i - 2);
        }
        EDGES.edge("4. CHANGES: 40 at most are kept: of two SHOES in turn", inTurn,
            "40* undo", "ofShoe 0 3 = 0", "ofShoe 1 3 = 1", "undo = STATE", "redo = 39", "ofShoe 0 3 = 2", "ofShoe 1 3 = 1", "redo = 38",
            "ofShoe 0 3 = 2", "ofShoe 1 3 = 3", "38* redo", "ofShoe 0 3 = 40", "ofShoe 1 3 = 41", "undo = 39", "ofShoe 0 3 = 40",
            "ofShoe 1 3 = 39");
        EDGES.edge("4. CHANGES: 40 at most are kept: one behind some UNDONE back drops none of those ahead", moves(40),
            "undo = 39", "undo = 38", "moveShoe 0 99 = 38", "count 5 = 39", "redo = STATE", "moveShoe 0 100 = 99", "count 5 = 40", "40* undo",
            "ofShoe 0 3 = 0", "undo = STATE");
        EDGES.edge("4. CHANGES: 40 at most are kept: of all sorts alike", moves(38),
            "claim 1 0 0", "suit 0>1:0=mw@1/0", "won 0 0", "undone 0 5", "count 5 = 40", "won 0 1", "count 5 = 40", "undo = 39", "ofSuit 0 3 = 0",
            "undo = 38", "ofSuit 0 6 = -1", "undo = 37", "ofSuit 0 3 = 1", "37* undo", "undo = STATE", "ofShoe 0 3 = 1");
    }

    private static void undoAndRedo() {
        EDGES.edge("Promise 29: how many may still be. STATE: none",
            "undo = STATE", "shoe 0 1 1 0", "undo = STATE", "moveShoe 0 1", "moveShoe 0 2", "undo = 1", "undo = 0", "undo = STATE",
            "ofShoe 0 3 = 0", "redo = 1");
        EDGES.edge("Promise 30: how many may still be. STATE: none",
            "redo = STATE", "shoe 0 1 1 0", "moveShoe 0 1", "redo = STATE", "moveShoe 0 2", "redo = STATE", "undo = 1", "undo = 0", "redo = 1",
            "redo = 0", "redo = STATE", "ofShoe 0 3 = 2", "count 5 = 2");
    }
}
