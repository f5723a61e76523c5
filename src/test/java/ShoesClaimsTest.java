/** Promises 1 to 8: a new object, SHOES, who is BOUND as whom, CLAIMS. */
public final class ShoesClaimsTest {
    private static final Check CHECK = new Check();

    public static void main(String[] args) {
        newObject();
        shoe();
        shoesFromARow();
        moveShoe();
        bound();
        rowsOfShoes();
        bindsOfALand();
        claims();
        CHECK.end("ShoesClaimsTest");
    }

    private static void newObject() {
        AlreadyJudged x = new AlreadyJudged();
        for (int what = 0; what <= 6; what++) {
            CHECK.due("1: count(" + what + ") of a new object", x.count(what), 0);
        }
        CHECK.due("1: no shoe", x.ofShoe(0, 0), -1);
        CHECK.due("1: no claim", x.ofClaim(0, 0), -1);
        CHECK.due("1: no suit", x.ofSuit(0, 0), -1);
        for (int place = 0; place < 6; place++) {
            CHECK.due("1: a place holds nothing", x.put(place, 0, 1), -11);
        }
        CHECK.due("1: nothing to undo", x.undo(), -5);
        CHECK.due("1: nothing to redo", x.redo(), -5);
        CHECK.due("1: no trace", x.trace(0), -1);
    }

    private static void shoe() {
        AlreadyJudged x = new AlreadyJudged();
        CHECK.due("2: first", x.shoe(0, 19, 1, 0), 0);
        CHECK.due("2: second", x.shoe(19, 0, 5, 9999), 1);
        CHECK.due("2: the same again is another one", x.shoe(19, 0, 5, 9999), 2);
        CHECK.due("2: one's own", x.shoe(3, 3, 1, 0), -1);
        CHECK.due("2: person below", x.shoe(-1, 3, 1, 0), -1);
        CHECK.due("2: person above", x.shoe(20, 3, 1, 0), -1);
        CHECK.due("2: other below", x.shoe(3, -1, 1, 0), -1);
        CHECK.due("2: other above", x.shoe(3, 20, 1, 0), -1);
        CHECK.due("2: sort 0", x.shoe(3, 4, 0, 0), -1);
        CHECK.due("2: sort 6", x.shoe(3, 4, 6, 0), -1);
        CHECK.due("2: day below", x.shoe(3, 4, 1, -1), -1);
        CHECK.due("2: day above", x.shoe(3, 4, 1, 10000), -1);
        CHECK.due("2: refused ones did not come", x.count(0), 3);
        CHECK.due("4: person", x.ofShoe(1, 0), 19);
        CHECK.due("4: other", x.ofShoe(1, 1), 0);
        CHECK.due("4: sort", x.ofShoe(1, 2), 5);
        CHECK.due("4: day", x.ofShoe(1, 3), 9999);
        CHECK.due("4: what below", x.ofShoe(1, -1), -1);
        CHECK.due("4: what above", x.ofShoe(1, 4), -1);
        CHECK.due("4: no such shoe", x.ofShoe(3, 0), -1);
        CHECK.due("4: shoe below", x.ofShoe(-1, 0), -1);
        for (int i = 3; i < 40; i++) {
            CHECK.due("2: as they come", x.shoe(1, 2, 3, i), i);
        }
        CHECK.due("2: full", x.shoe(1, 2, 3, 0), -3);
        CHECK.due("2: bad ahead of full", x.shoe(1, 1, 3, 0), -1);
        CHECK.due("2: forty", x.count(0), 40);
    }

    private static void putAll(AlreadyJudged x, int place, int... values) {
        for (int i = 0; i < values.length; i++) {
            x.put(place, i, values[i]);
        }
    }

    private static void shoesFromARow() {
        AlreadyJudged x = Check.withClaims(1);
        CHECK.due("3: a missing row", x.shoes(0, 0, 1), 0);
        x.row(0, 1, 14);
        putAll(x, 0, 7, 1, 2, 3, 30, 4, 5, 4, 40, 6, 7, 5, 50, 8);
        CHECK.due("3: from place 1, the row ends within a four", x.shoes(0, 1, 15), 3);
        CHECK.due("3: person", x.ofShoe(2, 0), 6);
        CHECK.due("3: other", x.ofShoe(2, 1), 7);
        CHECK.due("3: sort", x.ofShoe(2, 2), 5);
        CHECK.due("3: day", x.ofShoe(2, 3), 50);
        CHECK.due("3: no more than told", x.shoes(0, 1, 2), 2);
        x.row(3, 1, 8);
        putAll(x, 3, 0, 1, 1, 0, 2, 3, 1, 0);
        CHECK.due("3: up to the very end", x.shoes(3, 0, 2), 2);
        CHECK.due("3: the last four", x.shoes(3, 4, 1), 1);
        CHECK.due("3: one that is not so", x.shoes(0, 0, 2), 1);
        CHECK.due("3: behind the row", x.shoes(0, 14, 1), 0);
        CHECK.due("3: far behind the row", x.shoes(0, Integer.MAX_VALUE, 15), 0);
        CHECK.due("3: i below 0", x.shoes(0, -1, 1), 0);
        CHECK.due("3: i far below 0", x.shoes(0, Integer.MIN_VALUE, 1), 0);
        CHECK.due("3: n 0", x.shoes(0, 1, 0), -1);
        CHECK.due("3: n 16", x.shoes(0, 1, 16), -1);
        CHECK.due("3: place below", x.shoes(-1, 1, 1), -1);
        CHECK.due("3: place above", x.shoes(6, 1, 1), -1);
        x.put(0, 2, -2);
        CHECK.due("3: a negative person", x.shoes(0, 2, 1), 0);
        for (int sort = 0; sort <= 4; sort++) {
            x.row(1, sort, 8);
            CHECK.due("3: a row of sort " + sort, x.shoes(1, 0, 1), sort == 1 ? 0 : -12);
        }
        CHECK.due("3: of another kind, with i below 0", x.shoes(1, -1, 1), -12);
        Check.suit(x, "0>1:0=mw@1/0");
        x.keep(2, 0);
        CHECK.due("3: an ending", x.shoes(2, 0, 1), -12);
        AlreadyJudged y = new AlreadyJudged();
        for (int i = 0; i < 38; i++) {
            y.shoe(0, 1, 1, 0);
        }
        y.row(0, 1, 60);
        for (int i = 0; i < 15; i++) {
            y.put(0, 4 * i, 2);
            y.put(0, 4 * i + 1, 3);
            y.put(0, 4 * i + 2, 4);
            y.put(0, 4 * i + 3, i);
        }
        CHECK.due("3: shoes become full", y.shoes(0, 0, 15), 2);
        CHECK.due("3: shoes are full", y.shoes(0, 0, 15), 0);
        CHECK.due("3: forty", y.count(0), 40);
    }

    private static void moveShoe() {
        AlreadyJudged x = new AlreadyJudged();
        x.shoe(0, 1, 1, 10);
        CHECK.due("5: what it was", x.moveShoe(0, 20), 10);
        CHECK.due("5: and then", x.moveShoe(0, 20), 20);
        CHECK.due("5: one change", x.count(5), 1);
        CHECK.due("5: the day", x.ofShoe(0, 3), 20);
        CHECK.due("5: bound no more", x.bound(1, 19, 0, 0), -2);
        CHECK.due("5: bound then", x.bound(1, 20, 0, 0), 1);
        CHECK.due("5: no such shoe", x.moveShoe(1, 0), -1);
        CHECK.due("5: day below", x.moveShoe(0, -1), -1);
        CHECK.due("5: day above", x.moveShoe(0, 10000), -1);
        CHECK.due("5: refused, unchanged", x.ofShoe(0, 3), 20);
    }

    private static void bound() {
        AlreadyJudged x = new AlreadyJudged();
        x.shoe(0, 1, 4, 10);
        x.shoe(1, 2, 5, 20);
        x.shoe(2, 3, 1, 0);
        CHECK.due("6: oneself", x.bound(1919, 0, 7, 0), 0);
        CHECK.due("6: oneself, sort", x.bound(1919, 0, 7, 1), 0);
        CHECK.due("6: one step", x.bound(1, 10, 0, 0), 1);
        CHECK.due("6: too early", x.bound(1, 9, 0, 0), -2);
        CHECK.due("6: two steps", x.bound(2, 20, 0, 0), 2);
        CHECK.due("6: two steps, sort of the first", x.bound(2, 20, 0, 1), 4);
        CHECK.due("6: the second too early", x.bound(2, 19, 0, 0), -2);
        CHECK.due("6: three steps do not bind by n<3", x.bound(3, 20, 0, 0), -2);
        CHECK.due("6: not the other way", x.bound(100, 9999, 0, 0), -2);
        CHECK.due("6: pq below", x.bound(-1, 0, 0, 0), -1);
        CHECK.due("6: p above", x.bound(2000, 0, 0, 0), -1);
        CHECK.due("6: q above", x.bound(20, 0, 0, 0), -1);
        CHECK.due("6: day below", x.bound(1, -1, 0, 0), -1);
        CHECK.due("6: day above", x.bound(1, 10000, 0, 0), -1);
        CHECK.due("6: land below", x.bound(1, 10, -1, 0), -1);
        CHECK.due("6: land above", x.bound(1, 10, 8, 0), -1);
        CHECK.due("6: what below", x.bound(1, 10, 0, -1), -1);
        CHECK.due("6: what above", x.bound(1, 10, 0, 2), -1);
        CHECK.due("6: bad ahead of not", x.bound(100, 10, 0, 2), -1);
    }

    private static void rowsOfShoes() {
        AlreadyJudged x = new AlreadyJudged();
        for (int i = 0; i < 8; i++) {
            x.shoe(i, i + 1, 1, 0);
        }
        Check.law(x, 20, "1");
        CHECK.due("6: six steps", x.bound(6, 0, 0, 0), 6);
        CHECK.due("6: seven are too many", x.bound(7, 0, 0, 0), -2);
        x.shoe(0, 4, 2, 0);
        CHECK.due("6: the fewest steps", x.bound(6, 0, 0, 0), 3);
        CHECK.due("6: the fewest steps' sort", x.bound(6, 0, 0, 1), 2);
        AlreadyJudged y = new AlreadyJudged();
        y.shoe(2, 3, 3, 0);
        y.shoe(1, 3, 4, 0);
        y.shoe(0, 2, 5, 0);
        y.shoe(0, 1, 2, 0);
        CHECK.due("6: the row whose numbers are first, from p on", y.bound(3, 0, 0, 1), 5);
        Check.law(y, 20, "n=1&s=2|n=2");
        CHECK.due("6: the first row that binds", y.bound(3, 0, 0, 1), 2);
        y.shoe(19, 18, 4, 0);
        CHECK.due("6: far people", y.bound(1918, 0, 1, 1), 4);
        AlreadyJudged z = new AlreadyJudged();
        z.shoe(0, 1, 1, 0);
        z.shoe(1, 0, 2, 0);
        z.shoe(0, 2, 3, 0);
        Check.law(z, 20, "n=s");
        CHECK.due("6: a shoe that binds at its third step", z.bound(2, 0, 0, 0), 3);
        CHECK.due("6: its first shoe's sort", z.bound(2, 0, 0, 1), 1);
    }

    private static void bindsOfALand() {
        AlreadyJudged x = new AlreadyJudged();
        x.shoe(0, 1, 3, 100);
        CHECK.due("law of land 3", Check.law(x, 23, "d>4&s=3&h=3&n=1"), 1);
        CHECK.due("6: days since the shoe began", x.bound(1, 104, 3, 0), -2);
        CHECK.due("6: enough of them", x.bound(1, 105, 3, 0), 1);
        CHECK.due("6: another land's law stays", x.bound(1, 100, 2, 0), 1);
        Check.law(x, 23, "k|w|l|a|c|r|f");
        CHECK.due("6: names that are not of BINDS are 0", x.bound(1, 200, 3, 0), -2);
    }

    private static void claims() {
        AlreadyJudged x = new AlreadyJudged();
        CHECK.due("7: first", x.claim(1918, 15, 3), 0);
        CHECK.due("7: second", x.claim(1, 0, 0), 1);
        CHECK.due("7: the same again is another one", x.claim(1, 0, 0), 2);
        CHECK.due("7: against oneself", x.claim(505, 0, 0), -1);
        CHECK.due("7: pq below", x.claim(-1, 0, 0), -1);
        CHECK.due("7: p above", x.claim(2000, 0, 0), -1);
        CHECK.due("7: q above", x.claim(20, 0, 0), -1);
        CHECK.due("7: fact below", x.claim(1, -1, 0), -1);
        CHECK.due("7: fact above", x.claim(1, 16, 0), -1);
        CHECK.due("7: plea below", x.claim(1, 0, -1), -1);
        CHECK.due("7: plea above", x.claim(1, 0, 4), -1);
        CHECK.due("8: who", x.ofClaim(0, 0), 19);
        CHECK.due("8: against whom", x.ofClaim(0, 1), 18);
        CHECK.due("8: fact", x.ofClaim(0, 2), 15);
        CHECK.due("8: plea", x.ofClaim(0, 3), 3);
        CHECK.due("8: what below", x.ofClaim(0, -1), -1);
        CHECK.due("8: what above", x.ofClaim(0, 4), -1);
        CHECK.due("8: no such claim", x.ofClaim(3, 0), -1);
        CHECK.due("8: claim below", x.ofClaim(-1, 0), -1);
        for (int i = 3; i < 32; i++) {
            CHECK.due("7: as they come", x.claim(1, 0, 0), i);
        }
        CHECK.due("7: full", x.claim(1, 0, 0), -3);
        CHECK.due("7: bad ahead of full", x.claim(1, 16, 0), -1);
        CHECK.due("7: thirty-two", x.count(1), 32);
    }
}
