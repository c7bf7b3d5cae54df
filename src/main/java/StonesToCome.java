import java.util.Arrays;

/** Monuments to what's to come, as the document DOC.md promises them; the words in capitals are its terms. */
public final class StonesToCome {
    public static final int BAD = -1000000001, NO = -1000000002, FULL = -1000000003, NONE = -1000000005,
            NOTHING = -1000000011, KIND = -1000000012, INDEX = -1000000013, SIZE = -1000000014;

    private static final int SQUARES = 4, PEOPLE = 6, RANKS = 10, KINDS = 6, LAST_YEAR = 9999;
    private static final int EVERYBODY = (1 << PEOPLE) - 1;
    private static final int MOST_STONES = 10, MOST_TEXTS = 14, MOST_BYTES = 96, MOST_WAITING = 60;
    private static final int SHEETS = 4, SLOTS = 5, MOST_PLACES = 24, MOST_MARK = 99999;

    private static final int STONE = 0, BENCH = 1, COLUMN = 2, PLAQUE = 3, BRONZE = 4, CANVAS = 5;
    /** The KIND that stands right above each. */
    private static final int[] ABOVE = {-1, STONE, STONE, BENCH, COLUMN, STONE};

    private static final int COST_KEY = 0, FEE_KEY = 1, FINE_KEY = 2, KEYS = 3;
    private static final int MISSING = -1, SHORTS = 0, FLOATS = 1;
    private static final int HOLDS_NOTHING = 0, HOLDS_STONE = 1, HOLDS_SHEET = 2, HOLDS_NUMBER = 3;

    private final City now = new City();
    private final City image = new City();
    /** All thinking ahead is done here, so that no call makes a city of its own. */
    private final City mind = new City();
    private final Gathering gathering = new Gathering();
    private final Tape tape = new Tape();
    private final Sheet[] sheets = new Sheet[SHEETS];
    private final Slot[] slots = new Slot[SLOTS];
    private final int[] waiting = new int[MOST_WAITING];
    /** What each STONE costs, or how far each of the PEOPLE differs, within one call. */
    private final int[] sums = new int[MOST_STONES];
    private int waits = 0;
    private boolean hasImage = false;

    public StonesToCome() {
        for (int i = 0; i < SHEETS; i++) {
            sheets[i] = new Sheet();
        }
        for (int i = 0; i < SLOTS; i++) {
            slots[i] = new Slot();
        }
    }

    // ---- stones, people

    public int stone(int kind, int who, int where, int what, int when) {
        if (!isKind(kind) || !isOne(who) || !isSquare(where) || !isRank(what) || !isYear(when)) {
            return BAD;
        }
        return now.putUp(kind, who, where, what, when);
    }

    public int told(int stone, int what) {
        if (!isStone(stone)) {
            return BAD;
        }
        Stone one = now.stones[stone];
        switch (what) {
            case 0:
                return one.kind;
            case 1:
                return one.who;
            case 2:
                return one.where;
            case 3:
                return one.what;
            case 4:
                return one.when;
            case 5:
                return one.done;
            case 6:
                return now.holds(one) ? 1 : 0;
            case 7:
                return now.keeps(one);
            case 8:
                return one.worth();
            default:
                return BAD;
        }
    }

    public int as(int stone, int kind) {
        if (!isStone(stone) || !isKind(kind)) {
            return BAD;
        }
        Stone one = now.stones[stone];
        return one.isOf(kind) ? one.what : KIND;
    }

    public int turns(int stone, int kind) {
        if (!isStone(stone) || !isKind(kind)) {
            return BAD;
        }
        Stone one = now.stones[stone];
        int was = one.kind;
        one.kind = kind;
        return was;
    }

    public int set(int stone, int what, int v) {
        if (!isStone(stone)) {
            return BAD;
        }
        Stone one = now.stones[stone];
        switch (what) {
            case 1:
                return isOne(v) ? one.changeWho(v) : BAD;
            case 2:
                return isSquare(v) ? one.changeWhere(v) : BAD;
            case 3:
                return isRank(v) ? one.changeWhat(v) : BAD;
            case 4:
                return isYear(v) ? one.changeWhen(v) : BAD;
            default:
                return BAD;
        }
    }

    public int undone(int stone) {
        if (!isStone(stone)) {
            return BAD;
        }
        Stone one = now.stones[stone];
        if (!one.isFulfilled()) {
            return NO;
        }
        one.done = NONE;
        return 1;
    }

    public int person(int one, int what) {
        if (!isOne(one)) {
            return BAD;
        }
        switch (what) {
            case 0:
                return now.people.squareOf(one);
            case 1:
                return now.people.rankOf(one);
            default:
                return BAD;
        }
    }

    public int sends(int one, int what, int v) {
        int was = person(one, what);
        if (was == BAD) {
            return BAD;
        }
        if (what == 0) {
            if (!isSquare(v)) {
                return BAD;
            }
            now.people.move(one, v);
        } else {
            if (!isRank(v)) {
                return BAD;
            }
            now.people.promote(one, v);
        }
        return was;
    }

    public int at(int square) {
        return isSquare(square) ? now.people.crowdAt(square) : BAD;
    }

    public int rule(int what, int v) {
        if (v < 0 || v > 100) {
            return BAD;
        }
        int was;
        switch (what) {
            case 0:
                was = now.moves;
                now.moves = v;
                return was;
            case 1:
                was = now.rises;
                now.rises = v;
                return was;
            default:
                return BAD;
        }
    }

    public int deal(int n) {
        if (n < 1 || n > MOST_STONES) {
            return BAD;
        }
        int came = 0;
        while (came < n && now.many < MOST_STONES) {
            now.putUpDrawn();
            came++;
        }
        return came;
    }

    public int seed(int v) {
        int was = now.z;
        now.z = v;
        return was;
    }

    // ---- years

    public int years(int n) {
        if (n < 1 || n > 100) {
            return BAD;
        }
        return now.passYears(Math.min(n, LAST_YEAR - now.year));
    }

    public int city(int what) {
        switch (what) {
            case 0:
                return now.cost;
            case 1:
                return now.missed;
            case 2:
                return now.fulfilledSet();
            case 3:
                return now.openSet();
            case 4:
                return now.holdingSet();
            case 5:
                return now.people.ranksTogether();
            default:
                return BAD;
        }
    }

    public int together(int what) {
        if (what != -1 && !isOne(what)) {
            return BAD;
        }
        gathering.seek(now, now.openSet());
        return what == -1 ? gathering.most : gathering.squareOf(what);
    }

    public int clash(int one, int other) {
        if (!isStone(one) || !isStone(other) || one == other) {
            return BAD;
        }
        gathering.seek(now, 1 << one | 1 << other);
        return gathering.most < 2 ? 1 : 0;
    }

    // ---- what will be

    public int behind(int n, int what) {
        if (n < 0 || n > 100 || what < 0 || what > 2 + PEOPLE) {
            return BAD;
        }
        mind.become(now);
        switch (what) {
            case 0:
                return mind.fulfilledBehind(n);
            case 1:
                mind.passYears(n);
                return mind.missed;
            case 2:
                mind.passYears(n);
                return mind.cost;
            default:
                mind.passUnpaid(n);
                return mind.people.rankOf(what - 3);
        }
    }

    public int fulfils(int stone) {
        if (!isStone(stone)) {
            return BAD;
        }
        Stone one = now.stones[stone];
        if (one.isFulfilled()) {
            return 0;
        }
        int least = yearsUntilHolding(one, 200);
        return least == NONE || now.year + least - 1 > one.when ? NONE : least;
    }

    public int sent(int n, int what) {
        if (n < 1 || n > 30 || what < 0 || what > 2) {
            return BAD;
        }
        int most = -1;
        int best = 0;
        for (int pair = 0; pair < PEOPLE * SQUARES; pair++) {
            mind.become(now);
            mind.people.move(pair / SQUARES, pair % SQUARES);
            int many = mind.fulfilledBehind(n);
            if (many > most) {
                most = many;
                best = pair;
            }
        }
        if (what == 2) {
            return most;
        }
        return what == 0 ? best / SQUARES : best % SQUARES;
    }

    public int raised(int n, int what) {
        if (n < 1 || n > 60 || what < 0 || what > 1) {
            return BAD;
        }
        int most = -1;
        int best = 0;
        for (int one = 0; one < PEOPLE; one++) {
            mind.become(now);
            mind.people.promote(one, Math.min(RANKS - 1, mind.people.rankOf(one) + 1));
            int many = mind.fulfilledBehind(n);
            if (many > most) {
                most = many;
                best = one;
            }
        }
        return what == 0 ? best : most;
    }

    public int scrap(int n, int what) {
        if (n < 1 || n > 60 || what < 0 || what > 1) {
            return BAD;
        }
        if (now.many == 0) {
            return NONE;
        }
        sumCosts(n);
        // No STONE touches another one's cost: without the dearest the rest is cheapest.
        int dearest = 0;
        int cost = now.cost;
        for (int i = 0; i < now.many && i < MOST_STONES; i++) {
            cost += sums[i];
            if (sums[i] > sums[dearest]) {
                dearest = i;
            }
        }
        return what == 0 ? dearest : cost - sums[dearest];
    }

    public int becomes(int stone, int n, int what) {
        if (!isStone(stone) || n < 1 || n > 60 || what < 0 || what > 1) {
            return BAD;
        }
        int most = -1;
        int best = 0;
        for (int kind = 0; kind < KINDS; kind++) {
            mind.become(now);
            mind.stones[stone].kind = kind;
            int many = mind.fulfilledBehind(n);
            if (many > most) {
                most = many;
                best = kind;
            }
        }
        return what == 0 ? best : most;
    }

    public int latest(int stone) {
        if (!isStone(stone)) {
            return BAD;
        }
        Stone one = now.stones[stone];
        if (one.isFulfilled()) {
            return NO;
        }
        int least = yearsUntilHolding(one, 61);
        return least == NONE ? NONE : now.year + least - 1;
    }

    public int whose(int sheet, int what) {
        if (!isSheet(sheet) || what < 0 || what > 1) {
            return BAD;
        }
        Sheet row = sheets[sheet];
        if (row.isMissing()) {
            return NOTHING;
        }
        sumDifferences(row);
        int best = 0;
        for (int one = 1; one < PEOPLE; one++) {
            if (sums[one] < sums[best]) {
                best = one;
            }
        }
        return what == 0 ? best : sums[best];
    }

    public int fee() {
        return now.laws.given(FEE_KEY, now.cost, now.missed, 0, now.cost);
    }

    public int fine(int stone) {
        if (!isStone(stone)) {
            return BAD;
        }
        Stone one = now.stones[stone];
        return now.laws.given(FINE_KEY, one.when, now.people.rankOf(one.who), 0, one.when);
    }

    // ---- texts

    public int feed(int a, int b, int c) {
        if (tape.length + 12 > MOST_BYTES) {
            return FULL;
        }
        tape.append(a);
        tape.append(b);
        tape.append(c);
        return tape.length;
    }

    public int trim(int n) {
        if (n < 0 || n > tape.length) {
            return BAD;
        }
        tape.length = n;
        return n;
    }

    public int text() {
        tape.parse();
        tape.length = 0;
        if (tape.fault >= 0) {
            return -100 - tape.fault;
        }
        return now.laws.enact(tape.parsed());
    }

    public int textTold(int text, int what) {
        Text one = now.laws.numbered(text);
        if (one == null) {
            return BAD;
        }
        switch (what) {
            case 0:
                return one.key;
            case 1:
                return one.leaves;
            default:
                return BAD;
        }
    }

    public int why(int key) {
        return key < 0 || key >= KEYS ? BAD : now.laws.lastOf(key);
    }

    // ---- sheets, slots

    public int sheet(int sheet, int sort, int n) {
        if (!isSheet(sheet) || sort < MISSING || sort > FLOATS) {
            return BAD;
        }
        if (sort == MISSING) {
            sheets[sheet].clear(MISSING, 0);
            return 0;
        }
        if (n > MOST_PLACES) {
            return BAD;
        }
        if (n < 0) {
            return SIZE;
        }
        sheets[sheet].clear(sort, n);
        return n;
    }

    public int mark(int sheet, int place, int v) {
        if (!isSheet(sheet)) {
            return BAD;
        }
        Sheet row = sheets[sheet];
        if (row.isMissing()) {
            return NOTHING;
        }
        if (!row.has(place)) {
            return INDEX;
        }
        if (row.sort == SHORTS) {
            if (v == NONE) {
                return KIND;
            }
            row.places[place] = (short) v;
            return 1;
        }
        if (v != NONE && (v < -MOST_MARK || v > MOST_MARK)) {
            return BAD;
        }
        row.places[place] = v;
        return 1;
    }

    public int pour(int sheet) {
        if (!isSheet(sheet)) {
            return BAD;
        }
        Sheet row = sheets[sheet];
        if (row.isMissing()) {
            return NOTHING;
        }
        int changed = 0;
        for (int one = 0; one < PEOPLE; one++) {
            int v = row.valueAt(one);
            if (v != NONE) {
                int rank = Math.max(0, Math.min(RANKS - 1, v));
                changed += rank == now.people.rankOf(one) ? 0 : 1;
                now.people.promote(one, rank);
            }
        }
        return changed;
    }

    public int reads(int sheet) {
        if (!isSheet(sheet)) {
            return BAD;
        }
        Sheet row = sheets[sheet];
        if (row.isMissing()) {
            return NOTHING;
        }
        for (int place = 0; place < row.size; place++) {
            int v = row.valueAt(place);
            if (v != NONE && (!isOne(place) || v != now.people.squareOf(place))) {
                return place;
            }
        }
        return NONE;
    }

    public int copy(int from, int place, int to, int at, int many) {
        if (!isSheet(from) || !isSheet(to)) {
            return BAD;
        }
        Sheet source = sheets[from];
        Sheet target = sheets[to];
        if (source.isMissing() || target.isMissing()) {
            return NOTHING;
        }
        if (source.sort != target.sort) {
            return KIND;
        }
        if (!source.hasRun(place, many) || !target.hasRun(at, many)) {
            return INDEX;
        }
        System.arraycopy(source.places, place, target.places, at, many);
        return many;
    }

    public int lay(int slot, int thing, int k) {
        if (!isSlot(slot) || thing < HOLDS_NOTHING || thing > HOLDS_NUMBER
                || thing == HOLDS_STONE && !isStone(k) || thing == HOLDS_SHEET && !isSheet(k)) {
            return BAD;
        }
        if (thing == HOLDS_SHEET && sheets[k].isMissing()) {
            return NOTHING;
        }
        Slot one = slots[slot];
        int was = one.thing;
        one.thing = thing;
        if (thing == HOLDS_STONE) {
            one.stone.become(now.stones[k]);
        } else if (thing == HOLDS_SHEET) {
            one.sheet.become(sheets[k]);
        } else if (thing == HOLDS_NUMBER) {
            one.number = k;
        }
        return was;
    }

    public int ask(int slot, int kind) {
        if (!isSlot(slot) || !isKind(kind)) {
            return BAD;
        }
        Slot one = slots[slot];
        if (one.thing == HOLDS_NOTHING) {
            return NOTHING;
        }
        return one.thing == HOLDS_STONE && one.stone.isOf(kind) ? one.stone.worth() : KIND;
    }

    public int item(int slot, int place) {
        if (!isSlot(slot)) {
            return BAD;
        }
        Slot one = slots[slot];
        if (one.thing == HOLDS_NOTHING) {
            return NOTHING;
        }
        if (one.thing != HOLDS_SHEET) {
            return KIND;
        }
        if (!one.sheet.has(place)) {
            return INDEX;
        }
        int v = one.sheet.valueAt(place);
        return v == NONE ? KIND : v;
    }

    public int rest(int slot, int n) {
        if (!isSlot(slot)) {
            return BAD;
        }
        Slot one = slots[slot];
        if (one.thing == HOLDS_NOTHING) {
            return NOTHING;
        }
        if (one.thing != HOLDS_NUMBER) {
            return KIND;
        }
        return n == 0 ? NO : one.number % n;
    }

    // ---- rows, images

    public int tell(int v) {
        if (waits >= MOST_WAITING) {
            return FULL;
        }
        waiting[waits] = v;
        waits++;
        return waits;
    }

    public int check(int n) {
        int given = waits;
        waits = 0;
        if (n < 1 || n > 30) {
            return BAD;
        }
        if (!hasImage) {
            return NO;
        }
        mind.become(image);
        int due = 2 * Math.min(n, LAST_YEAR - image.year);
        for (int i = 0; i < due; i++) {
            if (i % 2 == 0) {
                mind.passYears(1);
            }
            int right = i % 2 == 0 ? mind.cost : mind.people.ranksTogether();
            if (i >= given || i >= MOST_WAITING || waiting[i] != right) {
                return 1 + i;
            }
        }
        return given > due ? 1 + due : 0;
    }

    public int keep() {
        image.become(now);
        hasImage = true;
        return image.many;
    }

    public int back() {
        if (!hasImage) {
            return NO;
        }
        now.become(image);
        return now.many;
    }

    public int count(int what) {
        switch (what) {
            case 0:
                return now.many;
            case 1:
                return now.year;
            case 2:
                return now.moves;
            case 3:
                return now.rises;
            case 4:
                return now.laws.many;
            case 5:
                return waits;
            case 6:
                return tape.length;
            case 7:
                return now.z;
            default:
                return BAD;
        }
    }

    // ---- helpers

    private static boolean isKind(int kind) {
        return kind >= 0 && kind < KINDS;
    }

    private static boolean isOne(int one) {
        return one >= 0 && one < PEOPLE;
    }

    private static boolean isSquare(int square) {
        return square >= 0 && square < SQUARES;
    }

    private static boolean isRank(int rank) {
        return rank >= 0 && rank < RANKS;
    }

    private static boolean isYear(int year) {
        return year >= 0 && year <= LAST_YEAR;
    }

    private static boolean isSheet(int sheet) {
        return sheet >= 0 && sheet < SHEETS;
    }

    private static boolean isSlot(int slot) {
        return slot >= 0 && slot < SLOTS;
    }

    private boolean isStone(int stone) {
        return stone >= 0 && stone < now.many && stone < MOST_STONES;
    }

    /** Behind how many YEARS (1 .. most) a STONE HOLDS first, whatever its WHEN; NONE: never. */
    private int yearsUntilHolding(Stone one, int most) {
        mind.become(now);
        for (int k = 1; k <= most; k++) {
            mind.stir();
            if (mind.holds(one)) {
                return k;
            }
        }
        return NONE;
    }

    private void sumCosts(int n) {
        Arrays.fill(sums, 0);
        mind.become(now);
        for (int k = 0; k < n; k++) {
            mind.stir();
            mind.fulfil();
            for (int i = 0; i < mind.many && i < MOST_STONES; i++) {
                if (!mind.stones[i].isFulfilled()) {
                    sums[i] += mind.keeps(mind.stones[i]);
                }
            }
            mind.year++;
        }
    }

    private void sumDifferences(Sheet row) {
        Arrays.fill(sums, 0);
        mind.become(now);
        for (int k = 0; k < row.size; k++) {
            int v = row.valueAt(k);
            for (int one = 0; one < PEOPLE && v != NONE; one++) {
                sums[one] += Math.abs(mind.people.rankOf(one) - v);
            }
            mind.stir();
        }
    }

    /** PEOPLE by numbers, and the same as sets by SQUARES and RANKS, so that a STONE need not look through all of them. */
    private static final class People {
        private final int[] squares = new int[PEOPLE];
        private final int[] ranks = new int[PEOPLE];
        private final int[] crowds = new int[SQUARES];
        private final int[] able = new int[RANKS];

        People() {
            crowds[0] = EVERYBODY;
            able[0] = EVERYBODY;
        }

        void become(People other) {
            System.arraycopy(other.squares, 0, squares, 0, PEOPLE);
            System.arraycopy(other.ranks, 0, ranks, 0, PEOPLE);
            System.arraycopy(other.crowds, 0, crowds, 0, SQUARES);
            System.arraycopy(other.able, 0, able, 0, RANKS);
        }

        int squareOf(int one) {
            return isOne(one) ? squares[one] : 0;
        }

        int rankOf(int one) {
            return isOne(one) ? ranks[one] : 0;
        }

        int crowdAt(int square) {
            return isSquare(square) ? crowds[square] : 0;
        }

        /** Those with that RANK or more. */
        int ableTo(int rank) {
            return isRank(rank) ? able[rank] : 0;
        }

        void move(int one, int square) {
            if (isOne(one) && isSquare(square) && isSquare(squares[one])) {
                crowds[squares[one]] &= ~(1 << one);
                crowds[square] |= 1 << one;
                squares[one] = square;
            }
        }

        void promote(int one, int rank) {
            if (isOne(one) && isRank(rank)) {
                ranks[one] = rank;
                for (int r = 0; r < RANKS; r++) {
                    able[r] = r <= rank ? able[r] | 1 << one : able[r] & ~(1 << one);
                }
            }
        }

        int ranksTogether() {
            int all = 0;
            for (int one = 0; one < PEOPLE; one++) {
                all += ranks[one];
            }
            return all;
        }
    }

    private static final class Stone {
        int kind = 0;
        int who = 0;
        int where = 0;
        int what = 0;
        int when = 0;
        int done = NONE;

        void become(Stone other) {
            kind = other.kind;
            who = other.who;
            where = other.where;
            what = other.what;
            when = other.when;
            done = other.done;
        }

        int changeWho(int v) {
            int was = who;
            who = v;
            return was;
        }

        int changeWhere(int v) {
            int was = where;
            where = v;
            return was;
        }

        int changeWhat(int v) {
            int was = what;
            what = v;
            return was;
        }

        int changeWhen(int v) {
            int was = when;
            when = v;
            return was;
        }

        boolean isFulfilled() {
            return done != NONE;
        }

        boolean isOf(int other) {
            int up = kind;
            for (int i = 0; i < KINDS && isKind(up); i++) {
                if (up == other) {
                    return true;
                }
                up = ABOVE[up];
            }
            return false;
        }

        /** By those that are AT its WHERE, and those with a RANK of its WHAT or more. */
        boolean holdsWith(int crowd, int able) {
            int own = 1 << who;
            switch (kind) {
                case BENCH:
                    return (crowd & own) != 0;
                case PLAQUE:
                    return (crowd & own) != 0 && crowd != own;
                case COLUMN:
                    return (able & own) != 0;
                case BRONZE:
                    return (crowd & able) != 0;
                case CANVAS:
                    return crowd == 0;
                default:
                    return (crowd & able & own) != 0;
            }
        }

        /** By what it would keep as a STONE. */
        int keepsBy(int asStone) {
            switch (kind) {
                case BENCH:
                    return asStone / 2;
                case PLAQUE:
                    return asStone / 2 + 1;
                case COLUMN:
                    return 2 * asStone;
                case BRONZE:
                    return 2 * asStone + 3;
                case CANVAS:
                    return 0;
                default:
                    return asStone;
            }
        }

        int worth() {
            switch (kind) {
                case BENCH:
                    return what + 5;
                case PLAQUE:
                    return 2 * (what + 5);
                case COLUMN:
                    return 9 - what;
                case BRONZE:
                    return 9 - what - 4;
                case CANVAS:
                    return 8;
                default:
                    return what;
            }
        }
    }

    /** All that AN IMAGE keeps. */
    private static final class City {
        final People people = new People();
        final Stone[] stones = new Stone[MOST_STONES];
        final Laws laws = new Laws();
        int many = 0;
        int moves = 60;
        int rises = 40;
        int cost = 0;
        int missed = 0;
        int year = 0;
        int z = 1;

        City() {
            for (int i = 0; i < MOST_STONES; i++) {
                stones[i] = new Stone();
            }
        }

        void become(City other) {
            people.become(other.people);
            for (int i = 0; i < other.many && i < MOST_STONES; i++) {
                stones[i].become(other.stones[i]);
            }
            laws.become(other.laws);
            many = other.many;
            moves = other.moves;
            rises = other.rises;
            cost = other.cost;
            missed = other.missed;
            year = other.year;
            z = other.z;
        }

        /** The number of the new STONE, or FULL. */
        int putUp(int kind, int who, int where, int what, int when) {
            if (many < 0 || many >= MOST_STONES) {
                return FULL;
            }
            Stone one = stones[many];
            one.kind = kind;
            one.who = who;
            one.where = where;
            one.what = what;
            one.when = when;
            one.done = NONE;
            many++;
            return many - 1;
        }

        void putUpDrawn() {
            int kind = draw() % KINDS;
            int who = draw() % PEOPLE;
            int where = draw() % SQUARES;
            int what = draw() % RANKS;
            int when = Math.min(LAST_YEAR, year + draw() % 60);
            putUp(kind, who, where, what, when);
        }

        int draw() {
            z = z * 1103515245 + 12345;
            return z >>> 8;
        }

        boolean holds(Stone one) {
            return one.holdsWith(people.crowdAt(one.where), people.ableTo(one.what));
        }

        int keeps(Stone one) {
            if (one.kind == CANVAS) {
                return 0;
            }
            int given = laws.given(COST_KEY, one.what, year, Math.max(0, one.when - year), 1);
            return one.keepsBy(Math.max(0, Math.min(99, given)));
        }

        /** How many were FULFILLED in them. */
        int passYears(int n) {
            int came = 0;
            for (int i = 0; i < n; i++) {
                stir();
                came += fulfil();
                pay();
                year++;
            }
            return came;
        }

        /** For thoughts that ask for no COST or MISSED: TEXTS are dear to work out. */
        void passUnpaid(int n) {
            for (int i = 0; i < n; i++) {
                stir();
                fulfil();
                year++;
            }
        }

        int fulfilledBehind(int n) {
            passUnpaid(n);
            return Integer.bitCount(fulfilledSet());
        }

        /** What PEOPLE do in A YEAR. */
        void stir() {
            if (draw() % 100 < moves) {
                int one = draw() % PEOPLE;
                people.move(one, draw() % SQUARES);
            }
            if (draw() % 100 < rises) {
                int one = draw() % PEOPLE;
                people.promote(one, (people.rankOf(one) + 1) % RANKS);
            }
        }

        int fulfil() {
            int came = 0;
            for (int i = 0; i < many && i < MOST_STONES; i++) {
                Stone one = stones[i];
                if (!one.isFulfilled() && year <= one.when && holds(one)) {
                    one.done = year;
                    came++;
                }
            }
            return came;
        }

        void pay() {
            for (int i = 0; i < many && i < MOST_STONES; i++) {
                Stone one = stones[i];
                if (!one.isFulfilled()) {
                    cost += keeps(one);
                    missed += year == one.when ? 1 : 0;
                }
            }
        }

        int fulfilledSet() {
            int set = 0;
            for (int i = 0; i < many && i < MOST_STONES; i++) {
                set |= stones[i].isFulfilled() ? 1 << i : 0;
            }
            return set;
        }

        int openSet() {
            int set = 0;
            for (int i = 0; i < many && i < MOST_STONES; i++) {
                set |= !stones[i].isFulfilled() && stones[i].when >= year ? 1 << i : 0;
            }
            return set;
        }

        int holdingSet() {
            int set = 0;
            for (int i = 0; i < many && i < MOST_STONES; i++) {
                set |= holds(stones[i]) ? 1 << i : 0;
            }
            return set;
        }
    }

    /**
     * Looks for SQUARES of PEOPLE with which most of a set of STONES HOLD. Whether one HOLDS depends on nothing but
     * who is AT its WHERE (RANKS being as they are), so each SQUARE is counted by itself for every crowd.
     */
    private static final class Gathering {
        private static final int CROWDS = 1 << PEOPLE;

        private final int[] held = new int[SQUARES * CROWDS];
        private final int[] crowds = new int[SQUARES];
        private final int[] squares = new int[PEOPLE];
        private final int[] best = new int[PEOPLE];
        int most = 0;

        int squareOf(int one) {
            return isOne(one) ? best[one] : 0;
        }

        void seek(City city, int set) {
            countHeld(city, set);
            Arrays.fill(squares, 0);
            Arrays.fill(crowds, 0);
            crowds[0] = EVERYBODY;
            int all = Integer.bitCount(set);
            most = -1;
            // All SQUARES of all PEOPLE, in the order in which the first one counts.
            for (int i = 0; i < 1 << 2 * PEOPLE && most < all; i++) {
                int holding = holding();
                if (holding > most) {
                    most = holding;
                    System.arraycopy(squares, 0, best, 0, PEOPLE);
                }
                goOn();
            }
        }

        private void countHeld(City city, int set) {
            Arrays.fill(held, 0);
            for (int i = 0; i < city.many && i < MOST_STONES; i++) {
                Stone one = city.stones[i];
                if ((set >> i & 1) != 0 && isSquare(one.where)) {
                    int able = city.people.ableTo(one.what);
                    for (int crowd = 0; crowd < CROWDS; crowd++) {
                        held[one.where * CROWDS + crowd] += one.holdsWith(crowd, able) ? 1 : 0;
                    }
                }
            }
        }

        private int holding() {
            int all = 0;
            for (int square = 0; square < SQUARES; square++) {
                all += held[square * CROWDS + (crowds[square] & EVERYBODY)];
            }
            return all;
        }

        /** The last of the PEOPLE goes to the next SQUARE; from the last one back to 0, and the one ahead goes on, too. */
        private void goOn() {
            boolean carries = true;
            for (int one = PEOPLE - 1; one >= 0 && carries && isSquare(squares[one]); one--) {
                int next = (squares[one] + 1) % SQUARES;
                crowds[squares[one]] &= ~(1 << one);
                crowds[next] |= 1 << one;
                squares[one] = next;
                carries = next == 0;
            }
        }
    }

    /** TEXTS, which of them count, and what they give. */
    private static final class Laws {
        private final Text[] texts = new Text[MOST_TEXTS];
        private final int[] last = new int[KEYS];
        int many = 0;

        Laws() {
            Arrays.fill(last, NONE);
        }

        void become(Laws other) {
            // A TEXT never changes, so that both may have the same.
            for (int i = 0; i < other.many && i < MOST_TEXTS; i++) {
                texts[i] = other.texts[i];
            }
            System.arraycopy(other.last, 0, last, 0, KEYS);
            many = other.many;
        }

        /** The number of the new TEXT, or FULL. */
        int enact(Text text) {
            if (many < 0 || many >= MOST_TEXTS || text.key < 0 || text.key >= KEYS) {
                return FULL;
            }
            texts[many] = text;
            last[text.key] = many;
            many++;
            return many - 1;
        }

        Text numbered(int text) {
            return text >= 0 && text < many && text < MOST_TEXTS ? texts[text] : null;
        }

        int lastOf(int key) {
            return key >= 0 && key < KEYS ? last[key] : NONE;
        }

        /** What the TEXT of a KEY gives, its NAMES being worth a, b, c. */
        int given(int key, int a, int b, int c, int without) {
            Text text = numbered(lastOf(key));
            return text == null ? without : text.gives(a, b, c);
        }
    }

    /** A TEXT as a row of steps: a NUMBER is itself, NAME i is -1 - i, a sign is its byte with a minus ahead. */
    private static final class Text {
        final int key;
        /** How many NUMBERS and NAMES it has. */
        final int leaves;
        private final int[] steps;
        private final int[] stack;
        private int height = 0;

        Text(int key, int leaves, int[] steps) {
            this.key = key;
            this.leaves = leaves;
            this.steps = steps;
            this.stack = new int[steps.length];
        }

        int gives(int a, int b, int c) {
            height = 0;
            for (int i = 0; i < steps.length; i++) {
                int step = steps[i];
                switch (step) {
                    case -1:
                        push(a);
                        break;
                    case -2:
                        push(b);
                        break;
                    case -3:
                        push(c);
                        break;
                    case -'!':
                        push(pop() == 0 ? 1 : 0);
                        break;
                    default:
                        push(step >= 0 ? step : join(-step, pop(), pop()));
                        break;
                }
            }
            return pop();
        }

        private void push(int v) {
            if (height >= 0 && height < stack.length) {
                stack[height] = v;
                height++;
            }
        }

        private int pop() {
            if (height <= 0 || height > stack.length) {
                return 0;
            }
            height--;
            return stack[height];
        }

        /** The right side comes first: it was pushed last. */
        private static int join(int sign, int right, int left) {
            switch (sign) {
                case '|':
                    return left != 0 || right != 0 ? 1 : 0;
                case '&':
                    return left != 0 && right != 0 ? 1 : 0;
                case '<':
                    return left < right ? 1 : 0;
                case '=':
                    return left == right ? 1 : 0;
                case '>':
                    return left > right ? 1 : 0;
                case '+':
                    return left + right;
                case '-':
                    return left - right;
                case '*':
                    return left * right;
                default:
                    return right == 0 ? 0 : left / right;
            }
        }
    }

    /** THE TAPE, and the reading of it as a TEXT; behind a FAULT the token is END, with which every reading ends. */
    private static final class Tape {
        private static final int END = -1, WORD = -2, NUMBER = -3, BROKEN = -4;
        private static final int OR_LEVEL = 0, TEST_LEVEL = 2, PIECE_LEVEL = 5;
        private static final int DEEPEST = 8, LONGEST_NUMBER = 4;

        private final int[] bytes = new int[MOST_BYTES];
        private final int[] steps = new int[MOST_BYTES];
        int length = 0;
        int fault = -1;
        private int token = END;
        private int start = 0;
        private int end = 0;
        private int key = 0;
        private int many = 0;
        private int leaves = 0;
        private int brackets = 0;
        private int nots = 0;

        void append(int four) {
            for (int shift = 24; shift >= 0 && length < MOST_BYTES; shift -= 8) {
                bytes[length] = four >>> shift & 255;
                length++;
            }
        }

        /** Leaves fault below 0 if THE TAPE is a TEXT. */
        void parse() {
            fault = -1;
            token = END;
            end = 0;
            many = 0;
            leaves = 0;
            brackets = 0;
            nots = 0;
            next();
            readKey();
            readLevel(OR_LEVEL);
            if (token != END) {
                fail();
            }
        }

        Text parsed() {
            return new Text(key, leaves, Arrays.copyOf(steps, many));
        }

        private int byteAt(int place) {
            return place >= 0 && place < length && place < MOST_BYTES ? bytes[place] : END;
        }

        private static boolean isLetter(int sign) {
            return sign >= 'a' && sign <= 'z';
        }

        private static boolean isDigit(int sign) {
            return sign >= '0' && sign <= '9';
        }

        private void next() {
            int behind = end;
            boolean wasWord = token == WORD || token == NUMBER;
            start = behind;
            while (start < length && byteAt(start) == ' ') {
                start++;
            }
            end = start;
            token = byteAt(start);
            if (isLetter(token)) {
                token = WORD;
                while (end < length && isLetter(byteAt(end))) {
                    end++;
                }
            } else if (isDigit(token)) {
                token = NUMBER;
                while (end < length && isDigit(byteAt(end))) {
                    end++;
                }
            } else {
                end++;
                return;
            }
            if (wasWord && start == behind || token == NUMBER && end - start > LONGEST_NUMBER) {
                token = BROKEN;
            }
        }

        private void fail() {
            if (fault < 0) {
                fault = start;
            }
            token = END;
        }

        private void put(int step) {
            if (many < MOST_BYTES) {
                steps[many] = step;
                many++;
            }
        }

        private static String keyName(int key) {
            switch (key) {
                case COST_KEY:
                    return "cost";
                case FEE_KEY:
                    return "fee";
                default:
                    return "fine";
            }
        }

        private static String namesOf(int key) {
            switch (key) {
                case COST_KEY:
                    return "wyl";
                case FEE_KEY:
                    return "cm";
                default:
                    return "wr";
            }
        }

        private static String signsOf(int level) {
            switch (level) {
                case OR_LEVEL:
                    return "|";
                case 1:
                    return "&";
                case TEST_LEVEL:
                    return "<=>";
                case 3:
                    return "+-";
                default:
                    return "*/";
            }
        }

        private boolean isWord(String word) {
            if (token != WORD || end - start != word.length()) {
                return false;
            }
            for (int i = 0; i < word.length(); i++) {
                if (byteAt(start + i) != word.charAt(i)) {
                    return false;
                }
            }
            return true;
        }

        private void readKey() {
            for (int k = 0; k < KEYS; k++) {
                if (isWord(keyName(k))) {
                    key = k;
                    next();
                    return;
                }
            }
            fail();
        }

        /** The levels of E, the loosest first, down to PIECE; not more than DEEPEST brackets go down again from there. */
        private void readLevel(int level) {
            if (level >= PIECE_LEVEL) {
                readPiece();
                return;
            }
            readLevel(level + 1);
            int most = level == TEST_LEVEL ? 1 : MOST_BYTES;
            for (int i = 0; i < most && token >= 0 && signsOf(level).indexOf((char) token) >= 0; i++) {
                int sign = token;
                next();
                readLevel(level + 1);
                put(-sign);
            }
        }

        private void readPiece() {
            switch (token) {
                case NUMBER:
                    readNumber();
                    break;
                case WORD:
                    readName();
                    break;
                case '!':
                    readNot();
                    break;
                case '(':
                    readBracket();
                    break;
                default:
                    fail();
                    break;
            }
        }

        private void readNumber() {
            int v = 0;
            for (int i = start; i < end; i++) {
                v = v * 10 + byteAt(i) - '0';
            }
            put(v);
            leaves++;
            next();
        }

        private void readName() {
            int name = end - start == 1 ? namesOf(key).indexOf((char) byteAt(start)) : -1;
            if (name < 0) {
                fail();
                return;
            }
            put(-1 - name);
            leaves++;
            next();
        }

        private void readNot() {
            if (nots >= DEEPEST) {
                fail();
                return;
            }
            nots++;
            next();
            readPiece();
            put(-'!');
            nots--;
        }

        private void readBracket() {
            if (brackets >= DEEPEST) {
                fail();
                return;
            }
            brackets++;
            next();
            readLevel(OR_LEVEL);
            if (token == ')') {
                next();
            } else {
                fail();
            }
            brackets--;
        }
    }

    /** A SHEET; NONE stands for NO NUMBER. */
    private static final class Sheet {
        final int[] places = new int[MOST_PLACES];
        int sort = MISSING;
        int size = 0;

        boolean isMissing() {
            return sort == MISSING;
        }

        void clear(int newSort, int newSize) {
            Arrays.fill(places, 0);
            sort = newSort;
            size = newSize;
        }

        void become(Sheet other) {
            System.arraycopy(other.places, 0, places, 0, MOST_PLACES);
            sort = other.sort;
            size = other.size;
        }

        boolean has(int place) {
            return place >= 0 && place < size && place < MOST_PLACES;
        }

        boolean hasRun(int place, int many) {
            return many >= 0 && place >= 0 && place <= size && many <= size - place;
        }

        /** NONE also for a place that is not there. */
        int valueAt(int place) {
            return has(place) ? places[place] : NONE;
        }
    }

    private static final class Slot {
        final Stone stone = new Stone();
        final Sheet sheet = new Sheet();
        int thing = HOLDS_NOTHING;
        int number = 0;
    }
}
