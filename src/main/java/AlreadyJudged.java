import java.util.Arrays;

/** Suits among people over one broken dam, and what each judgment has closed. */
public final class AlreadyJudged {
    public static final int BAD = -1, NOT = -2, FULL = -3, STATE = -5, VOID = -2000000000;

    private static final int NOTHING_THERE = -11, OTHER_KIND = -12, OUTSIDE = -13, SIZE_BELOW_0 = -14;
    private static final int FAULTS_FROM = -100, AS_TOLD = -1, NONE = -1;

    private static final int PEOPLE = 20, DAYS = 10000, LANDS = 8, FACTS = 16, PLEAS = 4, POINTS = 32;
    private static final int MOST_SHOES = 40, MOST_CLAIMS = 32, MOST_SUITS = 40, MOST_STEPS = 6;
    private static final int MOST_BYTES = 120, MOST_WISHES = 5, MOST_TOLD = 8, MOST_CHANGES = 40;
    private static final int MOST_AT_ONCE = 15, MOST_ELEMENTS = 60, MOST_TRACED = 24, MOST_BITS = 64, PLACES = 6;

    private static final int MERITS = 1, FORM = 2, AGREED = 3, DEFAULT = 4, UNDONE = 5, PART = 6, KINDS = 7;
    private static final int CLOSES = 0, SETTLES = 1, BINDS = 2, HEEDS = 3, USES = 4;

    private static final String NAMES = "kwdlhascrfn";
    private static final int NAME_K = 0, NAME_W = 1, NAME_D = 2, NAME_L = 3, NAME_H = 4, NAME_A = 5;
    private static final int NAME_S = 6, NAME_C = 7, NAME_R = 8, NAME_F = 9, NAME_N = 10, NAME_COUNT = 11;

    private final Court court = new Court();
    private final Inquiry inquiry = new Inquiry(court);
    private final Tape tape = new Tape();
    private final SuitReader suitReader = new SuitReader(tape);
    private final LawReader lawReader = new LawReader(tape);
    private final Wishes wishes = new Wishes();
    private final Changes changes = new Changes(court);
    private final Acts acts = new Acts();
    private final Place[] places = new Place[PLACES];
    private final int[] covers = new int[1 << MOST_TOLD];
    private final int[] heeded = new int[LANDS];

    public AlreadyJudged() {
        for (int use = 0; use < USES; use++) {
            tape.write(usualLaw(use));
            Law usual = lawReader.read();
            for (int land = 0; land < LANDS; land++) {
                court.laws[use * LANDS + land] = usual;
            }
        }
        tape.size = 0;
        for (int i = 0; i < PLACES; i++) {
            places[i] = new Place();
        }
    }

    // ---- shoes, claims

    public int shoe(int person, int other, int sort, int day) {
        if (!Court.isShoe(person, other, sort, day)) {
            return BAD;
        }
        return court.addShoe(person, other, sort, day);
    }

    public int shoes(int place, int i, int n) {
        Place from = placeAt(place);
        if (from == null || n < 1 || n > MOST_AT_ONCE) {
            return BAD;
        }
        if (from.holds != Place.NOTHING && from.holds != Place.SHORTS) {
            return OTHER_KIND;
        }
        int size = from.holds == Place.SHORTS ? from.size : 0;
        int came = 0;
        while (came < n && i >= 0 && i + 4L * came + 4 <= size && shoeFrom(from, i + 4 * came)) {
            came++;
        }
        return came;
    }

    public int ofShoe(int shoe, int what) {
        if (!isShoeNumber(shoe)) {
            return BAD;
        }
        switch (what) {
            case 0:
                return court.shoePerson[shoe];
            case 1:
                return court.shoeOther[shoe];
            case 2:
                return court.shoeSort[shoe];
            case 3:
                return court.shoeDay[shoe];
            default:
                return BAD;
        }
    }

    public int moveShoe(int shoe, int v) {
        if (!isShoeNumber(shoe) || !isDay(v)) {
            return BAD;
        }
        int before = court.shoeDay[shoe];
        changes.make(Changes.SHOE_DAY, shoe, before, v);
        return before;
    }

    public int bound(int pq, int day, int land, int what) {
        if (!isPair(pq) || !isDay(day) || !isLand(land) || !isChoice(what)) {
            return BAD;
        }
        inquiry.turnTo(day, land);
        int steps = inquiry.stepsTo(pq / 100, pq % 100);
        if (steps < 0) {
            return NOT;
        }
        return what == 0 ? steps : inquiry.firstSort(pq / 100, pq % 100, steps);
    }

    public int claim(int pq, int fact, int plea) {
        if (!isPair(pq) || pq / 100 == pq % 100) {
            return BAD;
        }
        if (fact < 0 || fact >= FACTS || plea < 0 || plea >= PLEAS) {
            return BAD;
        }
        return court.addClaim(pq, fact, plea);
    }

    public int ofClaim(int claim, int what) {
        if (!isClaim(claim)) {
            return BAD;
        }
        switch (what) {
            case 0:
                return court.claimWho[claim];
            case 1:
                return court.claimAgainst[claim];
            case 2:
                return court.claimFact[claim];
            case 3:
                return court.claimPlea[claim];
            default:
                return BAD;
        }
    }

    // ---- suits, laws

    public int feed(int n, int v) {
        if (n < 1 || n > 4) {
            return BAD;
        }
        if (tape.size + n > MOST_BYTES) {
            return FULL;
        }
        for (int i = 0; i < n; i++) {
            tape.add(v >>> 8 * i & 255);
        }
        return tape.size;
    }

    public int suit() {
        if (court.suitCount >= MOST_SUITS) {
            return FULL;
        }
        Suit told = suitReader.read(court.claimCount);
        tape.size = 0;
        if (told == null) {
            return FAULTS_FROM - suitReader.fault;
        }
        return court.addSuit(told);
    }

    public int ofSuit(int suit, int what) {
        Suit of = court.suitAt(suit);
        if (of == null) {
            return BAD;
        }
        if (what >= 50) {
            return what < 50 + POINTS ? of.pointBits(what - 50) : BAD;
        }
        if (what >= 10) {
            return what - 10 < of.askedCount ? of.asked[what - 10] : BAD;
        }
        return of.detail(what);
    }

    public int won(int suit, int v) {
        Suit of = court.suitAt(suit);
        if (of == null || !isChoice(v)) {
            return BAD;
        }
        int before = of.won;
        changes.make(Changes.WON, suit, before, v);
        return before;
    }

    public int undone(int suit, int day) {
        Suit of = court.suitAt(suit);
        if (of == null || !isDay(day) || day < of.day) {
            return BAD;
        }
        if (of.undoneFrom >= 0) {
            return NOT;
        }
        changes.make(Changes.UNDONE_FROM, suit, of.undoneFrom, day);
        return 1;
    }

    public int law(int ul) {
        if (ul < 0 || ul / 10 >= USES || ul % 10 >= LANDS) {
            return BAD;
        }
        Law told = lawReader.read();
        tape.size = 0;
        if (told == null) {
            return FAULTS_FROM - lawReader.fault;
        }
        court.laws[ul / 10 * LANDS + ul % 10] = told;
        return 1;
    }

    // ---- what is closed

    public int counts(int suit, int day, int land) {
        Suit of = court.suitAt(suit);
        if (of == null || !isDay(day) || !isLand(land)) {
            return BAD;
        }
        inquiry.turnTo(day, land);
        return inquiry.isCounting(of) ? 1 : 0;
    }

    public int met(int claim, int pq, int dl) {
        if (!isClaimOf(claim, pq) || !isWhen(dl)) {
            return BAD;
        }
        inquiry.open(dl / 10, dl % 10);
        return inquiry.firstCloser(claim, pq, NONE);
    }

    public int point(int point, int pq, int dl, int what) {
        if (!isPoint(point) || !isPair(pq) || !isWhen(dl) || !isChoice(what)) {
            return BAD;
        }
        inquiry.open(dl / 10, dl % 10);
        int found = inquiry.findPoint(point, pq / 100, pq % 100, NONE);
        return what == 0 ? found & 3 : found >> 2;
    }

    public int left(int dl, int i) {
        if (!isWhen(dl) || i < -1) {
            return BAD;
        }
        inquiry.open(dl / 10, dl % 10);
        long open = 0;
        for (int claim = 0; claim < court.claimCount; claim++) {
            if (inquiry.firstCloser(claim, AS_TOLD, NONE) < 0) {
                open |= 1L << claim;
            }
        }
        return bitOrSize(open, i);
    }

    public int lost(int suit, int i) {
        Suit of = court.suitAt(suit);
        if (of == null || i < -1) {
            return BAD;
        }
        inquiry.open(of.day, of.land);
        long never = 0;
        for (int claim = 0; claim < court.claimCount; claim++) {
            if (!of.hasAsked(claim) && inquiry.isClosing(of, claim, AS_TOLD)) {
                never |= 1L << claim;
            }
        }
        return bitOrSize(never, i);
    }

    public long opens(int suit, int dl) {
        Suit of = court.suitAt(suit);
        if (of == null || !isWhen(dl)) {
            return BAD;
        }
        inquiry.open(dl / 10, dl % 10);
        long opening = 0;
        for (int claim = 0; claim < court.claimCount; claim++) {
            if (inquiry.isClosing(of, claim, AS_TOLD) && inquiry.firstCloser(claim, AS_TOLD, suit) < 0) {
                opening |= 1L << claim;
            }
        }
        return opening;
    }

    public int clash(int i) {
        if (i < -1) {
            return BAD;
        }
        int seen = 0;
        for (int point = 0; point < POINTS; point++) {
            for (int first = 0; first < court.suitCount; first++) {
                long against = court.clashingWith(point, first);
                int size = Long.bitCount(against);
                if (i >= seen && i - seen < size) {
                    return 100 * first + bitOrSize(against, i - seen);
                }
                seen += size;
            }
        }
        return i < 0 ? seen : BAD;
    }

    // ---- orders, joined, rings

    public int wish(int claim, int won) {
        if (!isClaim(claim) || !isChoice(won) || wishes.has(claim)) {
            return BAD;
        }
        if (wishes.size >= MOST_WISHES) {
            return FULL;
        }
        wishes.add(claim, won);
        return wishes.size;
    }

    public int order(int dl, int what) {
        if (!isWhen(dl) || !isChoice(what)) {
            return BAD;
        }
        if (wishes.size == 0) {
            return STATE;
        }
        wishes.prepare(inquiry, dl / 10, dl % 10);
        wishes.seek(0, 0, 0, 0);
        return what == 0 ? wishes.best : wishes.bestRow;
    }

    public int unwish() {
        int before = wishes.size;
        wishes.size = 0;
        return before;
    }

    public int joined(int suit, int people, int what) {
        Suit of = court.suitAt(suit);
        if (of == null || !isChoice(what) || people <= 0 || people >= 1 << PEOPLE) {
            return BAD;
        }
        if (Integer.bitCount(people) > MOST_TOLD) {
            return BAD;
        }
        inquiry.open(of.day, of.land);
        int fewest = fewestTogether(people);
        return what == 0 ? fewest >> PEOPLE : fewest & (1 << PEOPLE) - 1;
    }

    public int ring(int what) {
        if (!isChoice(what)) {
            return BAD;
        }
        for (int land = 0; land < LANDS; land++) {
            heeded[land] = inquiry.landsHeeded(land);
        }
        for (int size = 2; size <= LANDS; size++) {
            int digits = firstRing(size);
            if (digits > 0) {
                return what == 0 ? size : digits;
            }
        }
        return NOT;
    }

    public int hangs(int claim, int pq, int dl) {
        if (!isClaimOf(claim, pq) || !isWhen(dl)) {
            return BAD;
        }
        inquiry.open(dl / 10, dl % 10);
        if (inquiry.firstCloser(claim, pq, NONE) < 0) {
            return BAD;
        }
        return inquiry.firstHook(claim, pq);
    }

    public int need(int point, int pq, int dl) {
        if (!isPoint(point) || !isPair(pq) || !isWhen(dl)) {
            return BAD;
        }
        inquiry.open(dl / 10, dl % 10);
        int found = inquiry.findPoint(point, pq / 100, pq % 100, NONE) & 3;
        if (found == 0) {
            return BAD;
        }
        for (int suit = 0; suit < court.suitCount; suit++) {
            if ((inquiry.findPoint(point, pq / 100, pq % 100, suit) & 3) != found) {
                return suit;
            }
        }
        return NOT;
    }

    public int undo() {
        return changes.back();
    }

    public int redo() {
        return changes.again();
    }

    // ---- acts, places

    public int act(int suit, int act, int x) {
        acts.ran = 0;
        Suit of = court.suitAt(suit);
        if (of == null) {
            return 0;
        }
        acts.begin(of.bodyKind(), suit, of.askedCount);
        switch (act) {
            case 0:
                return acts.closes(acts.kind, x);
            case 1:
                return acts.settles(acts.kind, x);
            case 2:
                return acts.binds(acts.kind, x);
            case 3:
                return acts.tells(acts.kind, x);
            default:
                return 0;
        }
    }

    public int trace(int i) {
        return i >= 0 && i < acts.ran && i < MOST_TRACED ? acts.bodies[i] : BAD;
    }

    public int keep(int place, int suit) {
        Place into = placeAt(place);
        if (into == null || suit != -1 && court.suitAt(suit) == null) {
            return BAD;
        }
        into.holds = suit == -1 ? Place.NOTHING : Place.ENDING;
        into.suit = suit;
        return 1;
    }

    public int row(int place, int sort, int n) {
        Place into = placeAt(place);
        if (into == null || sort < Place.BYTES || sort > Place.BOOLEANS || n > MOST_ELEMENTS) {
            return BAD;
        }
        if (n < 0) {
            return SIZE_BELOW_0;
        }
        into.becomeRow(sort, n);
        return 1;
    }

    public int put(int place, int i, long v) {
        Place into = placeAt(place);
        if (into == null) {
            return BAD;
        }
        int refusal = into.refusalOf(i);
        if (refusal < 0) {
            return refusal;
        }
        into.elements[i] = into.lowestBits(v);
        return 1;
    }

    public long element(int place, int i) {
        Place from = placeAt(place);
        if (from == null || from.refusalOf(i) < 0) {
            return Long.MIN_VALUE;
        }
        return from.elements[i];
    }

    public int shift(int place, int i, int other, int j, int n) {
        Place from = placeAt(place);
        Place into = placeAt(other);
        if (from == null || into == null) {
            return BAD;
        }
        if (from.holds == Place.NOTHING || into.holds == Place.NOTHING) {
            return NOTHING_THERE;
        }
        if (from.holds == Place.ENDING || from.holds != into.holds) {
            return OTHER_KIND;
        }
        if (!from.hasRange(i, n) || !into.hasRange(j, n)) {
            return OUTSIDE;
        }
        System.arraycopy(from.elements, i, into.elements, j, n);
        return n;
    }

    public int taken(int place, int k) {
        Place from = placeAt(place);
        if (from == null || k < 0 || k >= KINDS) {
            return BAD;
        }
        if (from.holds == Place.NOTHING) {
            return NOTHING_THERE;
        }
        Suit of = from.holds == Place.ENDING ? court.suitAt(from.suit) : null;
        if (of == null || !isUnder(of.bodyKind(), k)) {
            return OTHER_KIND;
        }
        return of.bodyKind();
    }

    public int count(int what) {
        switch (what) {
            case 0:
                return court.shoeCount;
            case 1:
                return court.claimCount;
            case 2:
                return court.suitCount;
            case 3:
                return tape.size;
            case 4:
                return wishes.size;
            case 5:
                return changes.done;
            case 6:
                return acts.ran;
            default:
                return BAD;
        }
    }

    // ---- what the calls share

    private static String usualLaw(int use) {
        switch (use) {
            case CLOSES:
                return "a&k=1|a&k=6|a&k=3";
            case SETTLES:
                return "f&n";
            case BINDS:
                return "n<3";
            default:
                return "1";
        }
    }

    private static boolean isDay(int day) {
        return day >= 0 && day < DAYS;
    }

    private static boolean isLand(int land) {
        return land >= 0 && land < LANDS;
    }

    private static boolean isPoint(int point) {
        return point >= 0 && point < POINTS;
    }

    private static boolean isChoice(int v) {
        return v == 0 || v == 1;
    }

    private static boolean isPair(int pq) {
        return pq >= 0 && pq / 100 < PEOPLE && pq % 100 < PEOPLE;
    }

    private static boolean isWhen(int dl) {
        return dl >= 0 && isDay(dl / 10) && isLand(dl % 10);
    }

    private boolean isShoeNumber(int shoe) {
        return shoe >= 0 && shoe < court.shoeCount;
    }

    private boolean isClaim(int claim) {
        return claim >= 0 && claim < court.claimCount;
    }

    private boolean isClaimOf(int claim, int pq) {
        return isClaim(claim) && (pq == AS_TOLD || isPair(pq));
    }

    private Place placeAt(int place) {
        return place >= 0 && place < PLACES ? places[place] : null;
    }

    /** The next SHOE of a ROW, if its four elements make one and there is room. */
    private boolean shoeFrom(Place from, int i) {
        if (!from.hasRange(i, 4)) {
            return false;
        }
        int person = (int) from.elements[i];
        int other = (int) from.elements[i + 1];
        int sort = (int) from.elements[i + 2];
        int day = (int) from.elements[i + 3];
        return Court.isShoe(person, other, sort, day) && court.addShoe(person, other, sort, day) >= 0;
    }

    /** How many bits are set (i -1), or which the i-th set one is. */
    private static int bitOrSize(long bits, int i) {
        if (i < 0) {
            return Long.bitCount(bits);
        }
        int seen = 0;
        for (int at = 0; at < MOST_BITS; at++) {
            if ((bits >> at & 1) != 0) {
                if (seen == i) {
                    return at;
                }
                seen++;
            }
        }
        return BAD;
    }

    private static boolean isUnder(int kind, int k) {
        int at = kind;
        for (int i = 0; i < KINDS && at != k && at > 0; i++) {
            at = Acts.above(at);
        }
        return at == k;
    }

    /**
     * The fewest people that stand for all the told ones, in one number: how many above their bits,
     * so that the lesser of two numbers is the better choice.
     */
    private int fewestTogether(int people) {
        int all = (1 << Integer.bitCount(people)) - 1;
        int none = 1 << 30;
        Arrays.fill(covers, none);
        covers[0] = 0;
        for (int one = 0; one < PEOPLE; one++) {
            int covered = toldWhoAre(people, one);
            for (int before = 0; before <= all && before < covers.length; before++) {
                int both = (before | covered) & all;
                if (covers[before] < none) {
                    covers[both] = Math.min(covers[both], covers[before] + (1 << PEOPLE) + (1 << one));
                }
            }
        }
        return covers[all];
    }

    /** Which of the told people are BOUND as one person, as bits in the order of the told. */
    private int toldWhoAre(int people, int one) {
        int covered = 0;
        int told = 0;
        for (int person = 0; person < PEOPLE; person++) {
            if ((people >> person & 1) != 0) {
                covered |= (inquiry.boundAs[one] >> person & 1) << told;
                told++;
            }
        }
        return covered;
    }

    private int firstRing(int size) {
        for (int least = 0; least + size <= LANDS; least++) {
            int digits = ringOn(least, least, 1 << least, size - 1, least + 1);
            if (digits > 0) {
                return digits;
            }
        }
        return 0;
    }

    /** The digits of the first ring that goes on from a LAND with so many more, or 0. */
    private int ringOn(int least, int land, int used, int more, int digits) {
        if (more <= 0) {
            return (heeded[land] >> least & 1) != 0 ? digits : 0;
        }
        for (int next = least + 1; next < LANDS; next++) {
            if ((used >> next & 1) == 0 && (heeded[land] >> next & 1) != 0) {
                int whole = ringOn(least, next, used | 1 << next, more - 1, digits * 10 + next + 1);
                if (whole > 0) {
                    return whole;
                }
            }
        }
        return 0;
    }

    /** All that has been told: SHOES, CLAIMS, SUITS and LAWS. */
    private static final class Court {
        final int[] shoePerson = new int[MOST_SHOES];
        final int[] shoeOther = new int[MOST_SHOES];
        final int[] shoeSort = new int[MOST_SHOES];
        final int[] shoeDay = new int[MOST_SHOES];
        final int[] claimWho = new int[MOST_CLAIMS];
        final int[] claimAgainst = new int[MOST_CLAIMS];
        final int[] claimFact = new int[MOST_CLAIMS];
        final int[] claimPlea = new int[MOST_CLAIMS];
        final Suit[] suits = new Suit[MOST_SUITS];
        final Law[] laws = new Law[USES * LANDS];
        int shoeCount;
        int claimCount;
        int suitCount;

        static boolean isShoe(int person, int other, int sort, int day) {
            return person >= 0 && person < PEOPLE && other >= 0 && other < PEOPLE && person != other
                && sort >= 1 && sort <= 5 && isDay(day);
        }

        int addShoe(int person, int other, int sort, int day) {
            if (shoeCount >= MOST_SHOES) {
                return FULL;
            }
            shoePerson[shoeCount] = person;
            shoeOther[shoeCount] = other;
            shoeSort[shoeCount] = sort;
            shoeDay[shoeCount] = day;
            shoeCount++;
            return shoeCount - 1;
        }

        int addClaim(int pq, int fact, int plea) {
            if (claimCount >= MOST_CLAIMS) {
                return FULL;
            }
            claimWho[claimCount] = pq / 100;
            claimAgainst[claimCount] = pq % 100;
            claimFact[claimCount] = fact;
            claimPlea[claimCount] = plea;
            claimCount++;
            return claimCount - 1;
        }

        int addSuit(Suit told) {
            if (suitCount >= MOST_SUITS) {
                return FULL;
            }
            suits[suitCount] = told;
            suitCount++;
            return suitCount - 1;
        }

        Suit suitAt(int suit) {
            return suit >= 0 && suit < suitCount ? suits[suit] : null;
        }

        /** The later SUITS that found a POINT the other way than one did, where both needed it. */
        long clashingWith(int point, int first) {
            Suit one = suitAt(first);
            if (one == null || !one.hasNeeded(point)) {
                return 0;
            }
            long against = 0;
            for (int second = first + 1; second < suitCount; second++) {
                Suit other = suits[second];
                if (other != null && other.hasNeeded(point) && other.wayOf(point) != one.wayOf(point)) {
                    against |= 1L << second;
                }
            }
            return against;
        }
    }

    /** One judgment; its POINTS are bits, since there are 32 of them at most. */
    private static final class Suit {
        int who;
        int against;
        int kind;
        int won;
        int day;
        int land;
        int undoneFrom = -1;
        final int[] asked = new int[MOST_CLAIMS];
        int askedCount;
        int askedBits;
        int first;
        int foundSo;
        int foundNot;
        int fought;
        int needed;

        /** Back to no CLAIMS and no POINTS; a text that has no FAULT tells all else anew. */
        void forget() {
            askedCount = 0;
            askedBits = 0;
            first = 0;
            foundSo = 0;
            foundNot = 0;
            fought = 0;
            needed = 0;
        }

        void ask(int claim) {
            if (askedCount < MOST_CLAIMS) {
                asked[askedCount] = claim;
                askedCount++;
                askedBits |= 1 << claim;
            }
        }

        boolean hasAsked(int claim) {
            return (askedBits >> claim & 1) != 0;
        }

        boolean hasFound(int point) {
            return ((foundSo | foundNot) >> point & 1) != 0;
        }

        boolean hasNeeded(int point) {
            return (needed >> point & 1) != 0;
        }

        /** 0 not found, 1 found so, 2 found not. */
        int wayOf(int point) {
            return (foundSo >> point & 1) + 2 * (foundNot >> point & 1);
        }

        int pointBits(int point) {
            return wayOf(point) + 4 * (fought >> point & 1) + 8 * (needed >> point & 1);
        }

        int kindOn(int asOf) {
            return undoneFrom >= 0 && asOf >= undoneFrom ? UNDONE : kind;
        }

        int bodyKind() {
            return undoneFrom >= 0 ? UNDONE : kind;
        }

        int detail(int what) {
            switch (what) {
                case 0:
                    return who;
                case 1:
                    return against;
                case 2:
                    return bodyKind();
                case 3:
                    return won;
                case 4:
                    return day;
                case 5:
                    return land;
                case 6:
                    return undoneFrom;
                case 7:
                    return askedCount;
                case 8:
                    return Integer.bitCount(foundSo | foundNot);
                default:
                    return BAD;
            }
        }
    }

    /** Bytes that wait to become a SUIT or a LAW. */
    private static final class Tape {
        final int[] bytes = new int[MOST_BYTES];
        int size;

        void add(int one) {
            if (size < MOST_BYTES) {
                bytes[size] = one;
                size++;
            }
        }

        void write(String text) {
            size = 0;
            for (int i = 0; i < text.length(); i++) {
                add(text.charAt(i));
            }
        }

        /** The byte at a place; -1 where the text has ended, which is like no sign of any text. */
        int byteAt(int at) {
            return at >= 0 && at < size && at < MOST_BYTES ? bytes[at] : -1;
        }

        boolean isDigitAt(int at) {
            int one = byteAt(at);
            return one >= '0' && one <= '9';
        }
    }

    /** Reads the text of a SUIT; behind a FAULT nothing more is read. */
    private static final class SuitReader {
        final Tape tape;
        // Left by a text with a FAULT and used again, so that only SUITS that came take room.
        Suit spare;
        int at;
        int numberAt;
        int fault;

        SuitReader(Tape tape) {
            this.tape = tape;
        }

        /** The SUIT, or null with its FAULT. */
        Suit read(int claimCount) {
            at = 0;
            fault = -1;
            Suit draft = blank();
            readSides(draft);
            readClaims(draft, claimCount);
            readPoints(draft);
            readEnding(draft);
            readTime(draft);
            judge(at >= tape.size, at);
            spare = fault < 0 ? null : draft;
            return fault < 0 ? draft : null;
        }

        Suit blank() {
            if (spare == null) {
                return new Suit();
            }
            spare.forget();
            return spare;
        }

        void readSides(Suit draft) {
            draft.who = number(2);
            judge(draft.who < PEOPLE, numberAt);
            expect('>');
            draft.against = number(2);
            judge(draft.against < PEOPLE && draft.against != draft.who, numberAt);
            expect(':');
        }

        void readClaims(Suit draft, int claimCount) {
            for (int i = 0; i <= MOST_CLAIMS && fault < 0; i++) {
                int claim = number(2);
                judge(claim < claimCount && !draft.hasAsked(claim), numberAt);
                if (fault < 0) {
                    draft.ask(claim);
                }
                if (!accept(',')) {
                    return;
                }
            }
        }

        void readPoints(Suit draft) {
            for (int i = 0; i <= POINTS && accept(';'); i++) {
                int point = number(2);
                judge(point < POINTS && !draft.hasFound(point), numberAt);
                int bit = 1 << point;
                if (accept('+')) {
                    draft.foundSo |= bit;
                } else {
                    expect('-');
                    draft.foundNot |= bit;
                }
                draft.fought |= accept('f') ? bit : 0;
                draft.needed |= accept('n') ? bit : 0;
            }
        }

        void readEnding(Suit draft) {
            expect('=');
            if (accept('p')) {
                draft.kind = PART;
                draft.first = number(1);
                judge(draft.first >= 1 && draft.first <= draft.askedCount, numberAt);
            } else {
                draft.kind = accept('m') ? MERITS : accept('f') ? FORM : accept('a') ? AGREED : DEFAULT;
                if (draft.kind == DEFAULT) {
                    expect('d');
                }
            }
            draft.won = accept('w') ? 1 : 0;
            if (draft.won == 0) {
                expect('l');
            }
        }

        void readTime(Suit draft) {
            expect('@');
            draft.day = number(4);
            expect('/');
            draft.land = number(1);
            judge(draft.land < LANDS, numberAt);
        }

        /** A number of so many digits at most; 0 where there is none. */
        int number(int most) {
            numberAt = at;
            judge(tape.isDigitAt(at), at);
            int value = 0;
            for (int i = 0; i < most && fault < 0 && tape.isDigitAt(at); i++) {
                value = value * 10 + tape.byteAt(at) - '0';
                at++;
            }
            return value;
        }

        boolean accept(int one) {
            if (fault >= 0 || tape.byteAt(at) != one) {
                return false;
            }
            at++;
            return true;
        }

        void expect(int one) {
            if (!accept(one)) {
                judge(false, at);
            }
        }

        void judge(boolean right, int place) {
            if (!right && fault < 0) {
                fault = place;
            }
        }
    }

    /** Reads the text of a LAW into its postfix form; behind a FAULT nothing more is read. */
    private static final class LawReader {
        static final int COMPARING = 2, TIGHTEST = 4, MOST_OPEN = 6;

        final Tape tape;
        // A LINE gets one token more than it has signs, and a sign parts it from the next LINE.
        final int[] code = new int[MOST_BYTES + 1];
        int size;
        int at;
        int fault;

        LawReader(Tape tape) {
            this.tape = tape;
        }

        /** The LAW, or null with its FAULT. */
        Law read() {
            at = 0;
            size = 0;
            fault = -1;
            readLine();
            for (int i = 0; i < MOST_BYTES && accept(';'); i++) {
                readLine();
            }
            if (at < tape.size) {
                fail();
            }
            return fault < 0 ? new Law(Arrays.copyOf(code, size)) : null;
        }

        void readLine() {
            readLevel(0, 0);
            if (accept('?')) {
                int hole = size;
                emit(Law.UNLESS);
                readLevel(0, 0);
                emit(Law.GIVE);
                if (hole < code.length) {
                    code[hole] = size << Law.SORT_BITS | Law.UNLESS;
                }
            } else {
                emit(Law.GIVE);
            }
        }

        /** Operands joined by the operators of a level (0 binds loosest) and of tighter ones. */
        private void readLevel(int level, int open) {
            if (level > TIGHTEST) {
                readOperand(open);
                return;
            }
            readLevel(level + 1, open);
            for (int i = 0; i < MOST_BYTES && fault < 0; i++) {
                int sort = operatorAt(level);
                if (sort < 0) {
                    return;
                }
                at++;
                readLevel(level + 1, open);
                emit(sort);
                if (level == COMPARING) {
                    return;
                }
            }
        }

        int operatorAt(int level) {
            int one = tape.byteAt(at);
            switch (level) {
                case 0:
                    return one == '|' ? Law.OR : -1;
                case 1:
                    return one == '&' ? Law.AND : -1;
                case COMPARING:
                    return one == '<' ? Law.LESS : one == '=' ? Law.LIKE : one == '>' ? Law.MORE : -1;
                case 3:
                    return one == '+' ? Law.PLUS : one == '-' ? Law.MINUS : -1;
                default:
                    return one == '*' ? Law.TIMES : one == '/' ? Law.OVER : one == '%' ? Law.REST : -1;
            }
        }

        private void readOperand(int open) {
            int one = tape.byteAt(at);
            if (fault >= 0) {
                return;
            }
            if (tape.isDigitAt(at)) {
                readNumber();
            } else if (one == '!' || one == '-') {
                if (mayOpen(open)) {
                    readOperand(open + 1);
                    emit(one == '!' ? Law.INVERT : Law.NEGATE);
                }
            } else if (one == '(') {
                if (mayOpen(open)) {
                    readLevel(0, open + 1);
                    if (!accept(')')) {
                        fail();
                    }
                }
            } else {
                readName(one);
            }
        }

        boolean mayOpen(int open) {
            if (open >= MOST_OPEN) {
                fail();
                return false;
            }
            at++;
            return true;
        }

        void readNumber() {
            int value = 0;
            for (int i = 0; i < 4 && tape.isDigitAt(at); i++) {
                value = value * 10 + tape.byteAt(at) - '0';
                at++;
            }
            emit(value << Law.SORT_BITS | Law.NUMBER);
        }

        void readName(int one) {
            int name = one < 0 ? -1 : NAMES.indexOf((char) one);
            if (name < 0) {
                fail();
                return;
            }
            at++;
            emit(name << Law.SORT_BITS | Law.NAME);
        }

        boolean accept(int one) {
            if (fault >= 0 || tape.byteAt(at) != one) {
                return false;
            }
            at++;
            return true;
        }

        void fail() {
            if (fault < 0) {
                fault = at;
            }
        }

        void emit(int token) {
            if (fault < 0 && size < code.length) {
                code[size] = token;
                size++;
            }
        }
    }

    /** A LAW in postfix form: a token's lowest bits are its sort, those above a number. */
    private static final class Law {
        static final int SORT_BITS = 5, SORT_MASK = 31;
        static final int NUMBER = 0, NAME = 1, GIVE = 2, UNLESS = 3, INVERT = 4, NEGATE = 5;
        static final int OR = 6, AND = 7, LESS = 8, LIKE = 9, MORE = 10;
        static final int PLUS = 11, MINUS = 12, TIMES = 13, OVER = 14, REST = 15;
        // Five operands may wait on each of seven levels of brackets, and one is being read.
        static final int MOST_WAITING = 36;

        final int[] code;

        Law(int[] code) {
            this.code = code;
        }

        int value(int[] names, int[] stack) {
            int top = 0;
            for (int at = 0; at < code.length; at++) {
                int sort = code[at] & SORT_MASK;
                int number = code[at] >> SORT_BITS;
                if (sort <= NAME) {
                    if (top >= stack.length) {
                        return 0;
                    }
                    stack[top] = sort == NUMBER ? number : number < names.length ? names[number] : 0;
                    top++;
                } else if (top < 1) {
                    return 0;
                } else if (sort == GIVE) {
                    return stack[top - 1];
                } else if (sort == UNLESS) {
                    top--;
                    at = stack[top] == 0 ? Math.max(at, number - 1) : at;
                } else if (sort == INVERT) {
                    stack[top - 1] = stack[top - 1] == 0 ? 1 : 0;
                } else if (sort == NEGATE) {
                    stack[top - 1] = -stack[top - 1];
                } else if (top < 2) {
                    return 0;
                } else {
                    top--;
                    stack[top - 1] = join(sort, stack[top - 1], stack[top]);
                }
            }
            return 0;
        }

        static int join(int sort, int x, int y) {
            switch (sort) {
                case OR:
                    return x != 0 || y != 0 ? 1 : 0;
                case AND:
                    return x != 0 && y != 0 ? 1 : 0;
                case LESS:
                    return x < y ? 1 : 0;
                case LIKE:
                    return x == y ? 1 : 0;
                case MORE:
                    return x > y ? 1 : 0;
                case PLUS:
                    return x + y;
                case MINUS:
                    return x - y;
                case TIMES:
                    return x * y;
                case OVER:
                    return y == 0 ? 0 : x / y;
                default:
                    return y == 0 ? 0 : x % y;
            }
        }
    }

    /** What holds on one DAY in one LAND; what has been worked out is kept until the next opening. */
    private static final class Inquiry {
        final Court court;
        final int[] names = new int[NAME_COUNT];
        final int[] stack = new int[Law.MOST_WAITING];
        final long[] judgedShoes = new long[MOST_STEPS + 1];
        final long[] bindingShoes = new long[MOST_STEPS + 1];
        // By a person: those who are BOUND as it, and those who stand there after the latest step, as bits.
        final int[] boundAs = new int[PEOPLE];
        final int[] standing = new int[PEOPLE];
        final int[] arriving = new int[PEOPLE];
        int day;
        int land;
        int shoeLeftOut;

        Inquiry(Court court) {
            this.court = court;
        }

        /** Turns to a DAY and a LAND, without asking yet who is BOUND there. */
        void turnTo(int asOf, int where) {
            day = asOf;
            land = where;
            shoeLeftOut = -1;
            Arrays.fill(judgedShoes, 0);
            Arrays.fill(bindingShoes, 0);
        }

        void open(int asOf, int where) {
            turnTo(asOf, where);
            spread();
        }

        /** From here on a SHOE counts as if it were not there. */
        void leaveOut(int shoe) {
            shoeLeftOut = shoe;
            spread();
        }

        /**
         * Walks all people's rows of SHOES at once, step by step: BINDS may turn on the step, so that
         * a longer row may lead where a shorter one does not.
         */
        void spread() {
            for (int person = 0; person < PEOPLE; person++) {
                standing[person] = 1 << person;
                boundAs[person] = 1 << person;
            }
            int occupied = (1 << PEOPLE) - 1;
            for (int step = 1; step <= MOST_STEPS && occupied != 0; step++) {
                Arrays.fill(arriving, 0);
                int next = 0;
                for (int shoe = 0; shoe < court.shoeCount; shoe++) {
                    int from = court.shoePerson[shoe];
                    int to = court.shoeOther[shoe];
                    if ((occupied >> from & 1) != 0 && isBinding(shoe, step)) {
                        arriving[to] |= standing[from];
                        next |= 1 << to;
                    }
                }
                for (int person = 0; person < PEOPLE; person++) {
                    standing[person] = arriving[person];
                    boundAs[person] |= arriving[person];
                }
                occupied = next;
            }
        }

        /** Whom the SHOES that bind at a step lead to from some people. */
        int nextFront(int front, int step) {
            int next = 0;
            for (int shoe = 0; shoe < court.shoeCount; shoe++) {
                if ((front >> court.shoePerson[shoe] & 1) != 0 && isBinding(shoe, step)) {
                    next |= 1 << court.shoeOther[shoe];
                }
            }
            return next;
        }

        boolean isBinding(int shoe, int step) {
            if (shoe == shoeLeftOut || court.shoeDay[shoe] > day) {
                return false;
            }
            if ((judgedShoes[step] >> shoe & 1) == 0) {
                judgedShoes[step] |= 1L << shoe;
                Arrays.fill(names, 0);
                names[NAME_S] = court.shoeSort[shoe];
                names[NAME_N] = step;
                names[NAME_D] = day - court.shoeDay[shoe];
                names[NAME_H] = land;
                bindingShoes[step] |= lawGives(BINDS) != 0 ? 1L << shoe : 0;
            }
            return (bindingShoes[step] >> shoe & 1) != 0;
        }

        /** The fewest steps by which p is BOUND as q, or NOT. */
        int stepsTo(int p, int q) {
            int front = 1 << p;
            for (int step = 0; step <= MOST_STEPS; step++) {
                if ((front >> q & 1) != 0) {
                    return step;
                }
                front = step < MOST_STEPS ? nextFront(front, step + 1) : 0;
            }
            return NOT;
        }

        /** The SORT of the first SHOE in the first row of so many steps from p to q. */
        int firstSort(int p, int q, int steps) {
            int ends = 1 << q;
            for (int step = Math.min(steps, MOST_STEPS); step > 1; step--) {
                int starts = 0;
                for (int shoe = 0; shoe < court.shoeCount; shoe++) {
                    if ((ends >> court.shoeOther[shoe] & 1) != 0 && isBinding(shoe, step)) {
                        starts |= 1 << court.shoePerson[shoe];
                    }
                }
                ends = starts;
            }
            for (int shoe = 0; shoe < court.shoeCount && steps > 0; shoe++) {
                if (court.shoePerson[shoe] == p && (ends >> court.shoeOther[shoe] & 1) != 0 && isBinding(shoe, 1)) {
                    return court.shoeSort[shoe];
                }
            }
            return 0;
        }

        int lawGives(int use) {
            Law law = court.laws[use * LANDS + land];
            return law == null ? 0 : law.value(names, stack);
        }

        void nameJudgment(Suit of) {
            Arrays.fill(names, 0);
            names[NAME_K] = of.kindOn(day);
            names[NAME_W] = of.won;
            names[NAME_D] = day - of.day;
            names[NAME_L] = of.land;
            names[NAME_H] = land;
        }

        boolean isCounting(Suit of) {
            if (of.day > day) {
                return false;
            }
            if (of.land == land) {
                return true;
            }
            nameJudgment(of);
            return lawGives(HEEDS) != 0;
        }

        /** The LANDS whose judgments by merits, won, of that DAY a LAND heeds, as bits. */
        int landsHeeded(int where) {
            land = where;
            Arrays.fill(names, 0);
            names[NAME_K] = MERITS;
            names[NAME_W] = 1;
            names[NAME_H] = where;
            int heeds = 0;
            for (int other = 0; other < LANDS; other++) {
                names[NAME_L] = other;
                heeds |= lawGives(HEEDS) != 0 ? 1 << other : 0;
            }
            return heeds;
        }

        boolean areBound(int p, int one, int q, int other) {
            return (boundAs[one] >> p & 1) != 0 && (boundAs[other] >> q & 1) != 0;
        }

        /** Whether a SUIT closes a CLAIM of p against q (pq -1: as told). */
        boolean isClosing(Suit of, int claim, int pq) {
            if (of.day > day) {
                return false;
            }
            int p = pq < 0 ? court.claimWho[claim] : pq / 100;
            int q = pq < 0 ? court.claimAgainst[claim] : pq % 100;
            boolean straight = areBound(p, of.who, q, of.against);
            boolean round = areBound(p, of.against, q, of.who);
            if (!straight && !round || !isCounting(of)) {
                return false;
            }
            int likenesses = likenessesOf(of, claim);
            return straight && closesSome(of, likenesses, 0) || round && closesSome(of, likenesses, 1);
        }

        /**
         * In which ways the CLAIMS asked are like one (a 1, s 2, c 4 make a way), a bit for each way:
         * CLOSES can't tell two CLAIMS asked apart that are like it in the same way.
         */
        int likenessesOf(Suit of, int claim) {
            int veryUpTo = of.kindOn(day) == PART ? of.first : of.askedCount;
            int ways = 0;
            for (int i = 0; i < of.askedCount; i++) {
                int asked = of.asked[i];
                int way = court.claimFact[asked] == court.claimFact[claim] ? 1 : 0;
                way += court.claimPlea[asked] == court.claimPlea[claim] ? 2 : 0;
                way += asked == claim && i < veryUpTo ? 4 : 0;
                ways |= 1 << way;
            }
            return ways;
        }

        boolean closesSome(Suit of, int likenesses, int round) {
            nameJudgment(of);
            names[NAME_R] = round;
            for (int way = 0; way < 8; way++) {
                names[NAME_A] = way & 1;
                names[NAME_S] = way >> 1 & 1;
                names[NAME_C] = way >> 2;
                if ((likenesses >> way & 1) != 0 && lawGives(CLOSES) != 0) {
                    return true;
                }
            }
            return false;
        }

        /** The least SUIT, but for one, that closes a CLAIM of p against q, or NOT. */
        int firstCloser(int claim, int pq, int butFor) {
            for (int suit = 0; suit < court.suitCount; suit++) {
                Suit of = court.suits[suit];
                if (suit != butFor && of != null && isClosing(of, claim, pq)) {
                    return suit;
                }
            }
            return NOT;
        }

        /** The first SHOE without which a closed CLAIM of p against q would be open, or NOT. */
        int firstHook(int claim, int pq) {
            long trodden = 0;
            for (int step = 1; step <= MOST_STEPS; step++) {
                trodden |= bindingShoes[step];
            }
            for (int shoe = 0; shoe < court.shoeCount; shoe++) {
                if ((trodden >> shoe & 1) != 0) {
                    leaveOut(shoe);
                    if (firstCloser(claim, pq, NONE) < 0) {
                        return shoe;
                    }
                }
            }
            return NOT;
        }

        /** How a POINT is found by all SUITS but for one: 0, 1 so, 2 not; and 4 if BOTH. */
        int findPoint(int point, int p, int q, int butFor) {
            int seen = 0;
            int latest = 0;
            int latestDay = -1;
            for (int suit = 0; suit < court.suitCount; suit++) {
                Suit of = court.suits[suit];
                if (suit != butFor && of != null && of.hasFound(point) && isSettling(of, point, p, q)) {
                    seen |= of.wayOf(point);
                    if (of.day >= latestDay) {
                        latest = of.wayOf(point);
                        latestDay = of.day;
                    }
                }
            }
            return seen == 3 ? latest + 4 : latest;
        }

        boolean isSettling(Suit of, int point, int p, int q) {
            if (of.day > day) {
                return false;
            }
            if (!areBound(p, of.who, q, of.against) && !areBound(p, of.against, q, of.who)) {
                return false;
            }
            if (!isCounting(of)) {
                return false;
            }
            nameJudgment(of);
            names[NAME_F] = of.fought >> point & 1;
            names[NAME_N] = of.needed >> point & 1;
            return lawGives(SETTLES) != 0;
        }
    }

    /** The wished CLAIMS, and the search for the row in which most of them can be asked. */
    private static final class Wishes {
        final int[] claims = new int[MOST_WISHES];
        final int[] wins = new int[MOST_WISHES];
        int size;
        // By the DAY in the row: the places that SUITS close then, as bits.
        final int[] closed = new int[MOST_WISHES];
        // By the place asked for, its DAY, and an earlier DAY: the places that would close it from there.
        final int[] closers = new int[MOST_WISHES * MOST_WISHES * MOST_WISHES];
        final int[] placeOn = new int[MOST_WISHES];
        final Suit brought = new Suit();
        int best;
        int bestRow;

        boolean has(int claim) {
            for (int i = 0; i < size; i++) {
                if (claims[i] == claim) {
                    return true;
                }
            }
            return false;
        }

        void add(int claim, int won) {
            if (size < MOST_WISHES) {
                claims[size] = claim;
                wins[size] = won;
                size++;
            }
        }

        void prepare(Inquiry inquiry, int day, int land) {
            best = -1;
            bestRow = 0;
            for (int on = 0; on < size; on++) {
                inquiry.open(day + on, land);
                closed[on] = 0;
                for (int place = 0; place < size; place++) {
                    if (inquiry.firstCloser(claims[place], AS_TOLD, NONE) >= 0) {
                        closed[on] |= 1 << place;
                    }
                    for (int earlier = 0; earlier < on; earlier++) {
                        closers[slot(place, on, earlier)] = closersOf(inquiry, place, day + earlier);
                    }
                }
            }
        }

        static int slot(int place, int on, int earlier) {
            return (place * MOST_WISHES + on) * MOST_WISHES + earlier;
        }

        int closersOf(Inquiry inquiry, int place, int day) {
            int bits = 0;
            for (int ahead = 0; ahead < size; ahead++) {
                if (ahead != place) {
                    bring(inquiry, ahead, day);
                    bits |= inquiry.isClosing(brought, claims[place], AS_TOLD) ? 1 << ahead : 0;
                }
            }
            return bits;
        }

        void bring(Inquiry inquiry, int place, int day) {
            int claim = claims[place];
            brought.who = inquiry.court.claimWho[claim];
            brought.against = inquiry.court.claimAgainst[claim];
            brought.kind = MERITS;
            brought.won = wins[place];
            brought.day = day;
            brought.land = inquiry.land;
            brought.asked[0] = claim;
            brought.askedCount = 1;
        }

        /** Tries the rows in the order of their digits; a later row must be better to count. */
        private void seek(int on, int used, int askedDays, int digits) {
            if (Integer.bitCount(askedDays) + size - on <= best) {
                return;
            }
            if (on >= size) {
                best = Integer.bitCount(askedDays);
                bestRow = digits;
                return;
            }
            for (int place = 0; place < size; place++) {
                if ((used >> place & 1) == 0) {
                    placeOn[on] = place;
                    int asked = mayAsk(place, on, askedDays) ? 1 << on : 0;
                    seek(on + 1, used | 1 << place, askedDays | asked, digits * 10 + place + 1);
                }
            }
        }

        boolean mayAsk(int place, int on, int askedDays) {
            if ((closed[on] >> place & 1) != 0) {
                return false;
            }
            for (int earlier = 0; earlier < on; earlier++) {
                boolean asked = (askedDays >> earlier & 1) != 0;
                if (asked && (closers[slot(place, on, earlier)] >> placeOn[earlier] & 1) != 0) {
                    return false;
                }
            }
            return true;
        }
    }

    /** The latest changes, those done ahead of those that can be done again. */
    private static final class Changes {
        static final int WON = 0, UNDONE_FROM = 1, SHOE_DAY = 2;

        final Court court;
        final int[] sorts = new int[MOST_CHANGES];
        final int[] numbers = new int[MOST_CHANGES];
        final int[] befores = new int[MOST_CHANGES];
        final int[] afters = new int[MOST_CHANGES];
        int done;
        int size;

        Changes(Court court) {
            this.court = court;
        }

        void make(int sort, int number, int before, int after) {
            if (before == after) {
                return;
            }
            if (done >= MOST_CHANGES) {
                dropOldest(sorts);
                dropOldest(numbers);
                dropOldest(befores);
                dropOldest(afters);
                done = MOST_CHANGES - 1;
            }
            sorts[done] = sort;
            numbers[done] = number;
            befores[done] = before;
            afters[done] = after;
            done++;
            size = done;
            set(sort, number, after);
        }

        static void dropOldest(int[] kept) {
            System.arraycopy(kept, 1, kept, 0, kept.length - 1);
        }

        int back() {
            if (done <= 0) {
                return STATE;
            }
            done--;
            set(sorts[done], numbers[done], befores[done]);
            return done;
        }

        int again() {
            if (done >= size) {
                return STATE;
            }
            set(sorts[done], numbers[done], afters[done]);
            done++;
            return size - done;
        }

        void set(int sort, int number, int v) {
            if (sort == SHOE_DAY) {
                if (number >= 0 && number < court.shoeCount) {
                    court.shoeDay[number] = v;
                }
                return;
            }
            Suit of = court.suitAt(number);
            if (of != null && sort == WON) {
                of.won = v;
            } else if (of != null) {
                of.undoneFrom = v;
            }
        }
    }

    /** Runs one act of an ENDING; a KIND without a body of its own takes the one above. */
    private static final class Acts {
        final int[] bodies = new int[MOST_TRACED];
        int ran;
        int kind;
        int number;
        int claims;

        void begin(int ownKind, int ownNumber, int ownClaims) {
            ran = 0;
            kind = ownKind;
            number = ownNumber;
            claims = ownClaims;
        }

        /** Every KIND stands under a lesser one, so that each way up ends at ENDING. */
        static int above(int from) {
            switch (from) {
                case DEFAULT:
                    return AGREED;
                case UNDONE:
                    return FORM;
                case PART:
                    return MERITS;
                default:
                    return 0;
            }
        }

        void note(int body) {
            if (ran < MOST_TRACED) {
                bodies[ran] = body;
            }
            ran++;
        }

        private int closes(int from, int x) {
            switch (from) {
                case AGREED:
                    note(40);
                    return closes(above(AGREED), x) - 1;
                case UNDONE:
                    note(60);
                    return closes(above(UNDONE), x + 1) * 2;
                case PART:
                    note(70);
                    return closes(above(PART), x) + claims;
                case MERITS:
                case FORM:
                case DEFAULT:
                    return closes(above(from), x);
                default:
                    note(1);
                    return x + number;
            }
        }

        private int settles(int from, int x) {
            switch (from) {
                case MERITS:
                    note(20);
                    return settles(above(MERITS), x) + claims;
                case DEFAULT:
                    note(50);
                    return -settles(above(DEFAULT), x);
                case PART:
                    note(71);
                    return settles(above(PART), x) - binds(kind, 2);
                case FORM:
                case AGREED:
                case UNDONE:
                    return settles(above(from), x);
                default:
                    note(10);
                    return closes(kind, x) * 2;
            }
        }

        private int binds(int from, int x) {
            if (from == FORM) {
                note(30);
                return binds(above(FORM), x) * 3;
            }
            if (from > 0) {
                return binds(above(from), x);
            }
            note(11);
            return x ^ number;
        }

        private int tells(int from, int x) {
            if (from == DEFAULT) {
                note(51);
                return tells(above(DEFAULT), x) ^ 5;
            }
            if (from > 0) {
                return tells(above(from), x);
            }
            note(2);
            return settles(kind, x) - binds(kind, 1);
        }
    }

    /** What one PLACE holds; a ROW's elements are kept as longs that its sort has already cut. */
    private static final class Place {
        static final int NOTHING = -1, BYTES = 0, SHORTS = 1, INTS = 2, BOOLEANS = 4, ENDING = 5;

        int holds = NOTHING;
        int suit;
        int size;
        final long[] elements = new long[MOST_ELEMENTS];

        void becomeRow(int sort, int n) {
            holds = sort;
            size = n;
            Arrays.fill(elements, 0);
        }

        /** Why the PLACE has no element i, or 0. */
        int refusalOf(int i) {
            if (holds == NOTHING) {
                return NOTHING_THERE;
            }
            if (holds == ENDING) {
                return OTHER_KIND;
            }
            return hasRange(i, 1) ? 0 : OUTSIDE;
        }

        boolean hasRange(int i, int n) {
            return i >= 0 && n >= 0 && i <= size && n <= size - i;
        }

        long lowestBits(long v) {
            switch (holds) {
                case BYTES:
                    return (byte) v;
                case SHORTS:
                    return (short) v;
                case INTS:
                    return (int) v;
                case BOOLEANS:
                    return v != 0 ? 1 : 0;
                default:
                    return v;
            }
        }
    }
}
