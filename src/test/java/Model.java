import java.util.ArrayList;
import java.util.Arrays;
import java.util.List;
import java.util.regex.Matcher;
import java.util.regex.Pattern;

/**
 * The document once more, in its most literal form: rows of SHOES are walked one by one, LAWS are worked
 * out from their text each time, what is left out is really taken away. Slow, and unlike the class.
 */
final class Model {
    static final Pattern SUIT = Pattern.compile(
        "(\\d{1,2})>(\\d{1,2}):(\\d{1,2}(?:,\\d{1,2})*)((?:;\\d{1,2}[+-]f?n?)*)=([mfad]|p[1-9])([wl])@(\\d{1,4})/([0-7])");
    static final Pattern NUMBERS = Pattern.compile("\\d+");

    record Claim(int who, int against, int fact, int plea) { }

    static final class Shoe {
        int person, other, sort, day;
    }

    static final class Case {
        int number, who, against, kind, won, day, land, undone = -1, first;
        List<Integer> claims = new ArrayList<>();
        int[] points = new int[32];

        int kindOn(int d) {
            return undone >= 0 && d >= undone ? 5 : kind;
        }

        int body() {
            return undone >= 0 ? 5 : kind;
        }
    }

    interface Step {
        void run();
    }

    record Change(Step back, Step again) { }

    final List<Shoe> shoes = new ArrayList<>();
    final List<Claim> claims = new ArrayList<>();
    final List<Case> cases = new ArrayList<>();
    final String[] laws = new String[40];
    final List<Integer> wished = new ArrayList<>();
    final List<Integer> wishedWon = new ArrayList<>();
    final List<Change> done = new ArrayList<>();
    final List<Change> again = new ArrayList<>();
    final Object[] places = new Object[6];
    List<Integer> trace = new ArrayList<>();
    String tape = "";

    Model() {
        String[] usual = {"a&k=1|a&k=6|a&k=3", "f&n", "n<3", "1"};
        for (int i = 0; i < 40; i++) {
            laws[i] = usual[i / 10];
        }
    }

    // ---- shoes, claims

    static boolean in(int v, int least, int most) {
        return v >= least && v <= most;
    }

    static boolean pair(int pq) {
        return pq >= 0 && in(pq / 100, 0, 19) && in(pq % 100, 0, 19);
    }

    static boolean when(int dl) {
        return dl >= 0 && in(dl / 10, 0, 9999) && in(dl % 10, 0, 7);
    }

    int shoe(int person, int other, int sort, int day) {
        if (!in(person, 0, 19) || !in(other, 0, 19) || person == other || !in(sort, 1, 5) || !in(day, 0, 9999)) {
            return -1;
        }
        if (shoes.size() == 40) {
            return -3;
        }
        Shoe s = new Shoe();
        s.person = person;
        s.other = other;
        s.sort = sort;
        s.day = day;
        shoes.add(s);
        return shoes.size() - 1;
    }

    int shoes(int place, int i, int n) {
        if (!in(place, 0, 5) || !in(n, 1, 15)) {
            return -1;
        }
        if (places[place] == null) {
            return 0;
        }
        if (!(places[place] instanceof short[] row)) {
            return -12;
        }
        int came = 0;
        try {
            for (int k = 0; k < n; k++) {
                if (shoe(row[i + 4 * k], row[i + 4 * k + 1], row[i + 4 * k + 2], row[i + 4 * k + 3]) < 0) {
                    break;
                }
                came++;
            }
        } catch (ArrayIndexOutOfBoundsException e) {
            return came;
        }
        return came;
    }

    int ofShoe(int shoe, int what) {
        if (!in(shoe, 0, shoes.size() - 1) || !in(what, 0, 3)) {
            return -1;
        }
        Shoe s = shoes.get(shoe);
        return new int[] {s.person, s.other, s.sort, s.day}[what];
    }

    void change(Step back, Step forth) {
        forth.run();
        done.add(new Change(back, forth));
        again.clear();
        if (done.size() > 40) {
            done.remove(0);
        }
    }

    int moveShoe(int shoe, int v) {
        if (!in(shoe, 0, shoes.size() - 1) || !in(v, 0, 9999)) {
            return -1;
        }
        Shoe s = shoes.get(shoe);
        int before = s.day;
        if (before != v) {
            change(() -> s.day = before, () -> s.day = v);
        }
        return before;
    }

    /** The first row of exactly so many SHOES from p to q, or null. */
    List<Shoe> rowOf(int p, int q, int day, int land, int steps, int from) {
        if (from > steps) {
            return p == q ? new ArrayList<>() : null;
        }
        for (Shoe s : shoes) {
            if (s.person == p && s.day <= day) {
                int[] names = new int[128];
                names['s'] = s.sort;
                names['n'] = from;
                names['d'] = day - s.day;
                names['h'] = land;
                if (value(laws[20 + land], names) != 0) {
                    List<Shoe> rest = rowOf(s.other, q, day, land, steps, from + 1);
                    if (rest != null) {
                        rest.add(0, s);
                        return rest;
                    }
                }
            }
        }
        return null;
    }

    List<Shoe> boundBy(int p, int q, int day, int land) {
        for (int steps = 0; steps <= 6; steps++) {
            List<Shoe> row = rowOf(p, q, day, land, steps, 1);
            if (row != null) {
                return row;
            }
        }
        return null;
    }

    boolean isBound(int p, int q, int day, int land) {
        return boundBy(p, q, day, land) != null;
    }

    int bound(int pq, int day, int land, int what) {
        if (!pair(pq) || !in(day, 0, 9999) || !in(land, 0, 7) || !in(what, 0, 1)) {
            return -1;
        }
        List<Shoe> row = boundBy(pq / 100, pq % 100, day, land);
        if (row == null) {
            return -2;
        }
        return what == 0 ? row.size() : row.isEmpty() ? 0 : row.get(0).sort;
    }

    int claim(int pq, int fact, int plea) {
        if (!pair(pq) || pq / 100 == pq % 100 || !in(fact, 0, 15) || !in(plea, 0, 3)) {
            return -1;
        }
        if (claims.size() == 32) {
            return -3;
        }
        claims.add(new Claim(pq / 100, pq % 100, fact, plea));
        return claims.size() - 1;
    }

    int ofClaim(int claim, int what) {
        if (!in(claim, 0, claims.size() - 1) || !in(what, 0, 3)) {
            return -1;
        }
        Claim c = claims.get(claim);
        return new int[] {c.who, c.against, c.fact, c.plea}[what];
    }

    // ---- suits, laws

    int feed(int n, int v) {
        if (!in(n, 1, 4)) {
            return -1;
        }
        if (tape.length() + n > 120) {
            return -3;
        }
        for (int i = 0; i < n; i++) {
            tape += (char) (v >> 8 * i & 255);
        }
        return tape.length();
    }

    /** How far a text goes on as a SUIT by its signs alone: its length, if some SUIT begins so. */
    static int goesOn(String text) {
        for (int i = 1; i <= text.length(); i++) {
            Matcher m = SUIT.matcher(text.substring(0, i));
            if (!m.matches() && !m.hitEnd()) {
                return i - 1;
            }
        }
        return text.length();
    }

    /** The place of the first number in the part that goes on that is not as said, or -1. */
    int wrongNumber(String text) {
        List<Integer> asked = new ArrayList<>();
        List<Integer> found = new ArrayList<>();
        Matcher m = NUMBERS.matcher(text);
        int who = -1;
        while (m.find()) {
            int at = m.start();
            char ahead = at == 0 ? '^' : text.charAt(at - 1);
            int v = Integer.parseInt(m.group());
            boolean right = switch (ahead) {
                case '^' -> v < 20;
                case '>' -> v < 20 && v != who;
                case ':', ',' -> v < claims.size() && !asked.contains(v);
                case ';' -> v < 32 && !found.contains(v);
                case 'p' -> v <= asked.size();
                default -> true;
            };
            if (!right) {
                return at;
            }
            if (ahead == '^') {
                who = v;
            } else if (ahead == ':' || ahead == ',') {
                asked.add(v);
            } else if (ahead == ';') {
                found.add(v);
            }
        }
        return -1;
    }

    int suit() {
        if (cases.size() == 40) {
            return -3;
        }
        String text = tape;
        tape = "";
        int end = goesOn(text);
        int wrong = wrongNumber(text.substring(0, end));
        Matcher m = SUIT.matcher(text);
        if (wrong >= 0 || !m.matches()) {
            return -100 - (wrong >= 0 ? wrong : end);
        }
        Case c = new Case();
        c.number = cases.size();
        c.who = Integer.parseInt(m.group(1));
        c.against = Integer.parseInt(m.group(2));
        for (String claim : m.group(3).split(",")) {
            c.claims.add(Integer.parseInt(claim));
        }
        for (String point : m.group(4).split(";")) {
            if (!point.isEmpty()) {
                String[] parts = point.split("[+-]", 2);
                c.points[Integer.parseInt(parts[0])] = (point.contains("+") ? 1 : 2)
                    + (parts[1].contains("f") ? 4 : 0) + (parts[1].contains("n") ? 8 : 0);
            }
        }
        c.kind = " mfad_p".indexOf(m.group(5).charAt(0));
        c.first = c.kind == 6 ? m.group(5).charAt(1) - '0' : 0;
        c.won = m.group(6).equals("w") ? 1 : 0;
        c.day = Integer.parseInt(m.group(7));
        c.land = Integer.parseInt(m.group(8));
        cases.add(c);
        return c.number;
    }

    Case caseAt(int suit) {
        return in(suit, 0, cases.size() - 1) ? cases.get(suit) : null;
    }

    int ofSuit(int suit, int what) {
        Case c = caseAt(suit);
        if (c == null) {
            return -1;
        }
        if (in(what, 0, 8)) {
            int points = (int) Arrays.stream(c.points).filter(v -> v != 0).count();
            return new int[] {c.who, c.against, c.body(), c.won, c.day, c.land, c.undone, c.claims.size(), points}[what];
        }
        if (in(what, 10, 9 + c.claims.size())) {
            return c.claims.get(what - 10);
        }
        return in(what, 50, 81) ? c.points[what - 50] : -1;
    }

    int won(int suit, int v) {
        Case c = caseAt(suit);
        if (c == null || !in(v, 0, 1)) {
            return -1;
        }
        int before = c.won;
        if (before != v) {
            change(() -> c.won = before, () -> c.won = v);
        }
        return before;
    }

    int undone(int suit, int day) {
        Case c = caseAt(suit);
        if (c == null || !in(day, 0, 9999) || day < c.day) {
            return -1;
        }
        if (c.undone >= 0) {
            return -2;
        }
        change(() -> c.undone = -1, () -> c.undone = day);
        return 1;
    }

    /** The FAULT of a LAW's text, by its signs one behind the other, or -1. */
    static int lawFault(String text) {
        StringBuilder open = new StringBuilder();
        List<Boolean> comparedOutside = new ArrayList<>();
        boolean operandDue = true;
        boolean compared = false;
        boolean asked = false;
        int digits = 0;
        for (int i = 0; i < text.length(); i++) {
            char c = text.charAt(i);
            boolean digit = c >= '0' && c <= '9';
            if (digit && !operandDue && digits > 0 && digits < 4) {
                digits++;
                continue;
            }
            digits = 0;
            if (operandDue) {
                if (c == '!' || c == '-' || c == '(') {
                    if (open.length() == 6) {
                        return i;
                    }
                    open.append(c);
                    if (c == '(') {
                        comparedOutside.add(compared);
                        compared = false;
                    }
                    continue;
                }
                if (!digit && "kwdlhascrfn".indexOf(c) < 0) {
                    return i;
                }
                digits = digit ? 1 : 0;
                operandDue = false;
                closeSigns(open);
                continue;
            }
            if (c == ')') {
                if (open.length() == 0) {
                    return i;
                }
                open.setLength(open.length() - 1);
                compared = comparedOutside.remove(comparedOutside.size() - 1);
                closeSigns(open);
                continue;
            }
            if (c == '<' || c == '=' || c == '>') {
                if (compared) {
                    return i;
                }
                compared = true;
            } else if (c == '|' || c == '&') {
                compared = false;
            } else if (c == '?' || c == ';') {
                if (open.length() > 0 || c == '?' && asked) {
                    return i;
                }
                asked = c == '?';
                compared = false;
            } else if ("+-*/%".indexOf(c) < 0) {
                return i;
            }
            operandDue = true;
        }
        return operandDue || open.length() > 0 ? text.length() : -1;
    }

    static void closeSigns(StringBuilder open) {
        while (open.length() > 0 && open.charAt(open.length() - 1) != '(') {
            open.setLength(open.length() - 1);
        }
    }

    int law(int ul) {
        if (ul < 0 || ul / 10 > 3 || ul % 10 > 7) {
            return -1;
        }
        String text = tape;
        tape = "";
        int fault = lawFault(text);
        if (fault >= 0) {
            return -100 - fault;
        }
        laws[ul] = text;
        return 1;
    }

    static int value(String law, int[] names) {
        for (String line : law.split(";")) {
            String[] parts = line.split("\\?");
            if (parts.length == 1) {
                return worth(line, names);
            }
            if (worth(parts[0], names) != 0) {
                return worth(parts[1], names);
            }
        }
        return 0;
    }

    /** The place of the last operator of a level that stands in no brackets, or -1. */
    static int lastOf(String text, String signs) {
        int depth = 0;
        for (int i = text.length() - 1; i > 0; i--) {
            char c = text.charAt(i);
            depth += c == ')' ? 1 : c == '(' ? -1 : 0;
            char ahead = text.charAt(i - 1);
            boolean behindOperand = Character.isLetterOrDigit(ahead) || ahead == ')';
            if (depth == 0 && behindOperand && signs.indexOf(c) >= 0) {
                return i;
            }
        }
        return -1;
    }

    static int worth(String text, int[] names) {
        for (String signs : new String[] {"|", "&", "<=>", "+-", "*/%"}) {
            int at = lastOf(text, signs);
            if (at > 0) {
                int x = worth(text.substring(0, at), names);
                int y = worth(text.substring(at + 1), names);
                return switch (text.charAt(at)) {
                    case '|' -> x != 0 || y != 0 ? 1 : 0;
                    case '&' -> x != 0 && y != 0 ? 1 : 0;
                    case '<' -> x < y ? 1 : 0;
                    case '=' -> x == y ? 1 : 0;
                    case '>' -> x > y ? 1 : 0;
                    case '+' -> x + y;
                    case '-' -> x - y;
                    case '*' -> x * y;
                    case '/' -> y == 0 ? 0 : x / y;
                    default -> y == 0 ? 0 : x % y;
                };
            }
        }
        char first = text.charAt(0);
        if (first == '!') {
            return worth(text.substring(1), names) == 0 ? 1 : 0;
        }
        if (first == '-') {
            return -worth(text.substring(1), names);
        }
        if (first == '(') {
            return worth(text.substring(1, text.length() - 1), names);
        }
        return Character.isDigit(first) ? Integer.parseInt(text) : names[first];
    }

    // ---- what is closed

    static int[] namesOf(Case c, int day, int land) {
        int[] names = new int[128];
        names['k'] = c.kindOn(day);
        names['w'] = c.won;
        names['d'] = day - c.day;
        names['l'] = c.land;
        names['h'] = land;
        return names;
    }

    boolean isCounting(Case c, int day, int land) {
        return c.day <= day && (c.land == land || value(laws[30 + land], namesOf(c, day, land)) != 0);
    }

    int counts(int suit, int day, int land) {
        Case c = caseAt(suit);
        if (c == null || !in(day, 0, 9999) || !in(land, 0, 7)) {
            return -1;
        }
        return isCounting(c, day, land) ? 1 : 0;
    }

    boolean isClosing(Case c, int claim, int p, int q, int day, int land) {
        if (!isCounting(c, day, land)) {
            return false;
        }
        for (int r = 0; r < 2; r++) {
            int one = r == 0 ? c.who : c.against;
            int other = r == 0 ? c.against : c.who;
            if (isBound(p, one, day, land) && isBound(q, other, day, land)) {
                for (int i = 0; i < c.claims.size(); i++) {
                    Claim asked = claims.get(c.claims.get(i));
                    boolean among = c.kindOn(day) != 6 || i < c.first;
                    int[] names = namesOf(c, day, land);
                    names['a'] = asked.fact == claims.get(claim).fact ? 1 : 0;
                    names['s'] = asked.plea == claims.get(claim).plea ? 1 : 0;
                    names['c'] = c.claims.get(i) == claim && among ? 1 : 0;
                    names['r'] = r;
                    if (value(laws[land], names) != 0) {
                        return true;
                    }
                }
            }
        }
        return false;
    }

    int metBy(int claim, int p, int q, int day, int land) {
        for (Case c : cases) {
            if (isClosing(c, claim, p, q, day, land)) {
                return c.number;
            }
        }
        return -2;
    }

    int metAsTold(int claim, int day, int land) {
        return metBy(claim, claims.get(claim).who, claims.get(claim).against, day, land);
    }

    int met(int claim, int pq, int dl) {
        if (!in(claim, 0, claims.size() - 1) || pq != -1 && !pair(pq) || !when(dl)) {
            return -1;
        }
        return pq == -1 ? metAsTold(claim, dl / 10, dl % 10) : metBy(claim, pq / 100, pq % 100, dl / 10, dl % 10);
    }

    /** Of a POINT: 0 open, 1 so, 2 not; -1 and -2 where it was found BOTH ways. */
    int found(int point, int p, int q, int day, int land) {
        List<Case> so = new ArrayList<>();
        List<Case> not = new ArrayList<>();
        for (Case c : cases) {
            if (c.points[point] != 0 && isCounting(c, day, land)
                && (isBound(p, c.who, day, land) && isBound(q, c.against, day, land)
                    || isBound(p, c.against, day, land) && isBound(q, c.who, day, land))) {
                int[] names = namesOf(c, day, land);
                names['f'] = c.points[point] >> 2 & 1;
                names['n'] = c.points[point] >> 3;
                if (value(laws[10 + land], names) != 0) {
                    ((c.points[point] & 1) != 0 ? so : not).add(c);
                }
            }
        }
        if (so.isEmpty() || not.isEmpty()) {
            return so.isEmpty() ? not.isEmpty() ? 0 : 2 : 1;
        }
        return latest(so) > latest(not) ? -1 : -2;
    }

    static int latest(List<Case> some) {
        return some.stream().mapToInt(c -> c.day * 100 + c.number).max().orElse(-1);
    }

    int point(int point, int pq, int dl, int what) {
        if (!in(point, 0, 31) || !pair(pq) || !when(dl) || !in(what, 0, 1)) {
            return -1;
        }
        int found = found(point, pq / 100, pq % 100, dl / 10, dl % 10);
        return what == 0 ? Math.abs(found) : found < 0 ? 1 : 0;
    }

    static int of(List<Integer> some, int i) {
        return i == -1 ? some.size() : in(i, 0, some.size() - 1) ? some.get(i) : -1;
    }

    List<Integer> leftOn(int day, int land) {
        List<Integer> open = new ArrayList<>();
        for (int i = 0; i < claims.size(); i++) {
            if (metAsTold(i, day, land) < 0) {
                open.add(i);
            }
        }
        return open;
    }

    int left(int dl, int i) {
        return when(dl) ? of(leftOn(dl / 10, dl % 10), i) : -1;
    }

    int lost(int suit, int i) {
        Case c = caseAt(suit);
        if (c == null) {
            return -1;
        }
        List<Integer> never = new ArrayList<>();
        for (int k = 0; k < claims.size(); k++) {
            Claim claim = claims.get(k);
            if (!c.claims.contains(k) && isClosing(c, k, claim.who, claim.against, c.day, c.land)) {
                never.add(k);
            }
        }
        return of(never, i);
    }

    long opens(int suit, int dl) {
        Case c = caseAt(suit);
        if (c == null || !when(dl)) {
            return -1;
        }
        List<Integer> before = leftOn(dl / 10, dl % 10);
        cases.remove(suit);
        List<Integer> without = leftOn(dl / 10, dl % 10);
        cases.add(suit, c);
        without.removeAll(before);
        return without.stream().mapToLong(k -> 1L << k).sum();
    }

    int clash(int i) {
        List<Integer> pairs = new ArrayList<>();
        for (int point = 0; point < 32; point++) {
            for (Case one : cases) {
                for (Case two : cases) {
                    int both = one.points[point] & two.points[point] & 8;
                    int ways = (one.points[point] | two.points[point]) & 3;
                    if (one.number < two.number && both != 0 && ways == 3) {
                        pairs.add(100 * one.number + two.number);
                    }
                }
            }
        }
        return of(pairs, i);
    }

    // ---- orders, joined, rings

    int wish(int claim, int won) {
        if (!in(claim, 0, claims.size() - 1) || !in(won, 0, 1) || wished.contains(claim)) {
            return -1;
        }
        if (wished.size() == 5) {
            return -3;
        }
        wished.add(claim);
        wishedWon.add(won);
        return wished.size();
    }

    /** How many of a row can be asked, by SUITS that are really brought and taken away again. */
    int askable(String row, int day, int land) {
        int before = cases.size();
        for (int i = 0; i < row.length(); i++) {
            int place = row.charAt(i) - '1';
            Claim claim = claims.get(wished.get(place));
            if (metAsTold(wished.get(place), day + i, land) < 0) {
                Case c = new Case();
                c.number = cases.size();
                c.who = claim.who;
                c.against = claim.against;
                c.kind = 1;
                c.won = wishedWon.get(place);
                c.day = day + i;
                c.land = land;
                c.claims.add(wished.get(place));
                cases.add(c);
            }
        }
        int asked = cases.size() - before;
        while (cases.size() > before) {
            cases.remove(cases.size() - 1);
        }
        return asked;
    }

    /** All rows of so many different digits of 1 .. most, in their order. */
    static void rowsOf(String row, int size, int most, List<String> rows) {
        if (row.length() == size) {
            rows.add(row);
            return;
        }
        for (char c = '1'; c < '1' + most; c++) {
            if (row.indexOf(c) < 0) {
                rowsOf(row + c, size, most, rows);
            }
        }
    }

    int order(int dl, int what) {
        if (!when(dl) || !in(what, 0, 1)) {
            return -1;
        }
        if (wished.isEmpty()) {
            return -5;
        }
        List<String> rows = new ArrayList<>();
        rowsOf("", wished.size(), wished.size(), rows);
        int most = -1;
        String first = "";
        for (String row : rows) {
            int asked = askable(row, dl / 10, dl % 10);
            if (asked > most) {
                most = asked;
                first = row;
            }
        }
        return what == 0 ? most : Integer.parseInt(first);
    }

    int unwish() {
        int before = wished.size();
        wished.clear();
        wishedWon.clear();
        return before;
    }

    int joined(int suit, int people, int what) {
        Case c = caseAt(suit);
        if (c == null || people <= 0 || people >= 1 << 20 || Integer.bitCount(people) > 8 || !in(what, 0, 1)) {
            return -1;
        }
        List<Integer> standFor = new ArrayList<>();
        for (int p = 0; p < 20; p++) {
            if ((people >> p & 1) != 0) {
                int bits = 0;
                for (int q = 0; q < 20; q++) {
                    bits |= isBound(p, q, c.day, c.land) ? 1 << q : 0;
                }
                standFor.add(bits);
            }
        }
        for (int size = 1; size <= 8; size++) {
            // The next number with as many bits, from the least on.
            for (int some = (1 << size) - 1; some < 1 << 20;) {
                int chosen = some;
                if (standFor.stream().allMatch(bits -> (bits & chosen) != 0)) {
                    return what == 0 ? size : some;
                }
                int low = some & -some;
                int up = some + low;
                some = up | ((some ^ up) >>> 2) / low;
            }
        }
        return -99;
    }

    int ring(int what) {
        if (!in(what, 0, 1)) {
            return -1;
        }
        boolean[][] heeds = new boolean[8][8];
        for (int h = 0; h < 8; h++) {
            for (int l = 0; l < 8; l++) {
                int[] names = new int[128];
                names['k'] = 1;
                names['w'] = 1;
                names['l'] = l;
                names['h'] = h;
                heeds[h][l] = value(laws[30 + h], names) != 0;
            }
        }
        for (int size = 2; size <= 8; size++) {
            List<String> rows = new ArrayList<>();
            rowsOf("", size, 8, rows);
            for (String row : rows) {
                if (isRing(row, heeds)) {
                    return what == 0 ? size : Integer.parseInt(row);
                }
            }
        }
        return -2;
    }

    static boolean isRing(String row, boolean[][] heeds) {
        for (int i = 0; i < row.length(); i++) {
            int h = row.charAt(i) - '1';
            int l = row.charAt((i + 1) % row.length()) - '1';
            if (h < row.charAt(0) - '1' || !heeds[h][l]) {
                return false;
            }
        }
        return true;
    }

    int hangs(int claim, int pq, int dl) {
        int now = met(claim, pq, dl);
        if (now < 0) {
            return -1;
        }
        for (int i = 0; i < shoes.size(); i++) {
            Shoe s = shoes.remove(i);
            int without = met(claim, pq, dl);
            shoes.add(i, s);
            if (without == -2) {
                return i;
            }
        }
        return -2;
    }

    int need(int point, int pq, int dl) {
        int now = point(point, pq, dl, 0);
        if (now <= 0) {
            return -1;
        }
        for (int i = 0; i < cases.size(); i++) {
            Case c = cases.remove(i);
            int without = point(point, pq, dl, 0);
            cases.add(i, c);
            if (without != now) {
                return i;
            }
        }
        return -2;
    }

    int undo() {
        if (done.isEmpty()) {
            return -5;
        }
        Change c = done.remove(done.size() - 1);
        c.back.run();
        again.add(c);
        return done.size();
    }

    int redo() {
        if (again.isEmpty()) {
            return -5;
        }
        Change c = again.remove(again.size() - 1);
        c.again.run();
        done.add(c);
        return again.size();
    }

    // ---- acts, places

    interface Closes {
        int number();

        void ran(int body);

        default int closes(int x) {
            ran(1);
            return x + number();
        }
    }

    interface Tells {
        void ran(int body);

        int settles(int x);

        int binds(int x);

        default int tells(int x) {
            ran(2);
            return settles(x) - binds(1);
        }
    }

    class Ending implements Closes, Tells {
        int n, c;

        public int number() {
            return n;
        }

        public void ran(int body) {
            trace.add(body);
        }

        public int settles(int x) {
            ran(10);
            return closes(x) * 2;
        }

        public int binds(int x) {
            ran(11);
            return x ^ n;
        }
    }

    class Merits extends Ending {
        @Override
        public int settles(int x) {
            ran(20);
            return super.settles(x) + c;
        }
    }

    class Form extends Ending {
        @Override
        public int binds(int x) {
            ran(30);
            return super.binds(x) * 3;
        }
    }

    class Agreed extends Ending {
        @Override
        public int closes(int x) {
            ran(40);
            return super.closes(x) - 1;
        }
    }

    class Default extends Agreed {
        @Override
        public int settles(int x) {
            ran(50);
            return -super.settles(x);
        }

        @Override
        public int tells(int x) {
            ran(51);
            return super.tells(x) ^ 5;
        }
    }

    class Undone extends Form {
        @Override
        public int closes(int x) {
            ran(60);
            return super.closes(x + 1) * 2;
        }
    }

    class Part extends Merits {
        @Override
        public int closes(int x) {
            ran(70);
            return super.closes(x) + c;
        }

        @Override
        public int settles(int x) {
            ran(71);
            return super.settles(x) - binds(2);
        }
    }

    Ending endingOf(Case c) {
        Ending e = switch (c.body()) {
            case 1 -> new Merits();
            case 2 -> new Form();
            case 3 -> new Agreed();
            case 4 -> new Default();
            case 5 -> new Undone();
            default -> new Part();
        };
        e.n = c.number;
        e.c = c.claims.size();
        return e;
    }

    int act(int suit, int act, int x) {
        trace = new ArrayList<>();
        Case c = caseAt(suit);
        if (c == null || !in(act, 0, 3)) {
            return 0;
        }
        Ending e = endingOf(c);
        return switch (act) {
            case 0 -> e.closes(x);
            case 1 -> e.settles(x);
            case 2 -> e.binds(x);
            default -> e.tells(x);
        };
    }

    int trace(int i) {
        return in(i, 0, Math.min(trace.size(), 24) - 1) ? trace.get(i) : -1;
    }

    int keep(int place, int suit) {
        if (!in(place, 0, 5) || suit != -1 && caseAt(suit) == null) {
            return -1;
        }
        places[place] = suit == -1 ? null : caseAt(suit);
        return 1;
    }

    int row(int place, int sort, int n) {
        if (!in(place, 0, 5) || !in(sort, 0, 4) || n > 60) {
            return -1;
        }
        if (n < 0) {
            return -14;
        }
        places[place] = switch (sort) {
            case 0 -> new byte[n];
            case 1 -> new short[n];
            case 2 -> new int[n];
            case 3 -> new long[n];
            default -> new boolean[n];
        };
        return 1;
    }

    int put(int place, int i, long v) {
        if (!in(place, 0, 5)) {
            return -1;
        }
        Object o = places[place];
        if (o == null) {
            return -11;
        }
        try {
            if (o instanceof byte[] row) {
                row[i] = (byte) v;
            } else if (o instanceof short[] row) {
                row[i] = (short) v;
            } else if (o instanceof int[] row) {
                row[i] = (int) v;
            } else if (o instanceof long[] row) {
                row[i] = v;
            } else if (o instanceof boolean[] row) {
                row[i] = v != 0;
            } else {
                return -12;
            }
            return 1;
        } catch (ArrayIndexOutOfBoundsException e) {
            return -13;
        }
    }

    long element(int place, int i) {
        if (!in(place, 0, 5) || places[place] == null || places[place] instanceof Case) {
            return Long.MIN_VALUE;
        }
        Object o = places[place];
        if (!in(i, 0, java.lang.reflect.Array.getLength(o) - 1)) {
            return Long.MIN_VALUE;
        }
        return o instanceof boolean[] row ? row[i] ? 1 : 0 : java.lang.reflect.Array.getLong(o, i);
    }

    int shift(int place, int i, int other, int j, int n) {
        if (!in(place, 0, 5) || !in(other, 0, 5)) {
            return -1;
        }
        if (places[place] == null || places[other] == null) {
            return -11;
        }
        if (places[place] instanceof Case || places[place].getClass() != places[other].getClass()) {
            return -12;
        }
        try {
            System.arraycopy(places[place], i, places[other], j, n);
            return n;
        } catch (IndexOutOfBoundsException e) {
            return -13;
        }
    }

    int taken(int place, int k) {
        if (!in(place, 0, 5) || !in(k, 0, 6)) {
            return -1;
        }
        if (places[place] == null) {
            return -11;
        }
        if (!(places[place] instanceof Case c)) {
            return -12;
        }
        Class<?>[] kinds = {Ending.class, Merits.class, Form.class, Agreed.class, Default.class, Undone.class, Part.class};
        return kinds[k].isInstance(endingOf(c)) ? c.body() : -12;
    }

    int count(int what) {
        if (!in(what, 0, 6)) {
            return -1;
        }
        return new int[] {shoes.size(), claims.size(), cases.size(), tape.length(), wished.size(), done.size(),
            trace.size()}[what];
    }
}
