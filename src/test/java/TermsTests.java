/**
 * 'Terms' and sections 1 to 5 of the document: each sentence that names a bound has a test of its own, named by its words.
 * The promise told with an answer is that of the call by which it is seen.
 */
public final class TermsTests extends Checks {
    private static final int STONE = 0, BENCH = 1, COLUMN = 2, PLAQUE = 3, BRONZE = 4, CANVAS = 5;

    public static void main(String[] args) {
        terms();
        city();
        kinds();
        holds();
        keepsAndWorth();
        lots();
        fulfilling();
        drawn();
        open();
        together();
        clash();
        thoughtsWithoutTheBound();
        tape();
        fullTapes();
        names();
        everyByte();
        blanksAndWords();
        faults();
        depths();
        values();
        toldLast();
        sheets();
        slots();
        images();
        yearsTold();
        end();
    }

    // ---- Terms

    private static void terms() {
        String[] cut = {"7/2", "(0-7)/2", "7/(0-2)", "(0-7)/(0-2)", "1/2", "(0-1)/2", "9999/9999", "9998/9999"};
        int[] want = {3, -3, -3, 3, 0, 0, 1, 0};
        for (int i = 0; i < cut.length; i++) due(26, "/ cuts towards 0: " + cut[i], gives(cut[i]), want[i]);
        StonesToCome x = still();
        for (int i = 0; i < 10; i++) x.stone(COLUMN, 0, 0, i == 9 ? 0 : 9, 0);
        due(15, "sets are told by bits: all ten", x.city(3), 0b1111111111);
        due(15, "sets are told by bits: the last", x.city(4), 0b1000000000);
        due(15, "sets are told by bits: none", x.city(2), 0);
        due(10, "sets are told by bits: all six", x.at(0), 0b111111);
        due(10, "sets are told by bits: nobody", x.at(3), 0);
    }

    // ---- section 1

    private static void city() {
        StonesToCome x = new StonesToCome();
        for (int one = 0; one < 6; one++) {
            due(8, "AT a SQUARE (0 at first)", x.person(one, 0), 0);
            due(8, "of a RANK (0 at first)", x.person(one, 1), 0);
        }
        for (int one = 0; one < 6; one++) {
            for (int square = 3; square >= 0; square--) {
                due(9, "SQUARES 0 .. 3", x.sends(one, 0, square), square == 3 ? 0 : square + 1);
                due(10, "AT " + square, x.at(square) >> one & 1, 1);
                due(10, "AT no other one", x.at((square + 1) % 4) >> one & 1, 0);
            }
            for (int rank = 9; rank >= 0; rank--) {
                due(9, "RANK 0 .. 9", x.sends(one, 1, rank), rank == 9 ? 0 : rank + 1);
                due(8, "of RANK " + rank, x.person(one, 1), rank);
            }
        }
        stoneFields();
        StonesToCome y = new StonesToCome();
        due(11, "MOVES (60 at first)", y.rule(0, 0), 60);
        due(11, "MOVES 0 ..", y.rule(0, 100), 0);
        due(11, "MOVES .. 100", y.rule(0, 60), 100);
        due(11, "RISES (40 at first)", y.rule(1, 0), 40);
        due(11, "RISES 0 ..", y.rule(1, 100), 0);
        due(11, "RISES .. 100", y.rule(1, 40), 100);
        due(15, "COST is 0 at first", y.city(0), 0);
        due(15, "MISSED is 0 at first", y.city(1), 0);
        due(46, "THE YEAR is 0 at first", y.count(1), 0);
        goToYear(y, 9999);
        due(14, "9999 at most", y.years(100), 0);
        due(46, "9999 at most", y.count(1), 9999);
    }

    private static void stoneFields() {
        int[] last = {5, 5, 3, 9, 9999};
        for (int k = 0; k < 5; k++) {
            for (int v : new int[] {0, last[k]}) {
                StonesToCome x = new StonesToCome();
                int[] fields = new int[5];
                fields[k] = v;
                due(2, "numbered from 0", call(x, "stone", fields), 0);
                for (int i = 0; i < 5; i++) due(3, "field " + i + " of " + shown("stone", fields), x.told(0, i), fields[i]);
                due(3, "DONE: none at first", x.told(0, 5), NONE);
            }
        }
        StonesToCome x = new StonesToCome();
        for (int i = 0; i < 10; i++) due(2, "10 at most, numbered from 0", x.stone(i % 6, 5 - i % 6, i % 4, i, 1111 * i), i);
        due(2, "10 at most", x.stone(0, 0, 0, 0, 0), FULL);
        for (int i = 0; i < 10; i++) {
            int[] fields = {i % 6, 5 - i % 6, i % 4, i, 1111 * i, NONE};
            for (int k = 0; k < 6; k++) due(3, "each has its own", x.told(i, k), fields[k]);
        }
    }

    /** Of which KINDS one of each KIND is: as, and ask. */
    private static void kinds() {
        int[][] of = {{STONE}, {STONE, BENCH}, {STONE, COLUMN}, {STONE, BENCH, PLAQUE}, {STONE, COLUMN, BRONZE}, {STONE, CANVAS}};
        int[] worth = {4, 9, 5, 18, 1, 8};
        for (int kind = 0; kind < 6; kind++) {
            StonesToCome x = new StonesToCome();
            x.stone(kind, 0, 0, 4, 0);
            x.lay(0, 1, 0);
            for (int other = 0; other < 6; other++) {
                boolean is = false;
                for (int k : of[kind]) is |= k == other;
                due(4, "KIND " + kind + " as " + other, x.as(0, other), is ? 4 : KIND);
                due(39, "KIND " + kind + " taken for " + other, x.ask(0, other), is ? worth[kind] : KIND);
            }
        }
    }

    private static int holds(int kind, int what, int[] at, int[] ranks) {
        StonesToCome x = new StonesToCome();
        x.stone(kind, 1, 2, what, 0);
        for (int one = 0; one < 6; one++) {
            x.sends(one, 0, at[one]);
            x.sends(one, 1, ranks[one]);
        }
        due(15, "city(4) is as told", x.city(4), x.told(0, 6));
        return x.told(0, 6);
    }

    /** Of a STONE to number 1 at SQUARE 2. */
    private static void holds() {
        int[] away = {3, 1, 0, 1, 3, 0}, there = {3, 2, 0, 1, 3, 0}, both = {3, 2, 0, 1, 3, 2}, other = {2, 1, 0, 1, 3, 0};
        int[] together = {2, 2, 2, 2, 2, 2}, others = {2, 0, 2, 2, 2, 2};
        for (int what = 0; what < 10; what++) {
            for (int rank = 0; rank < 10; rank++) {
                int enough = rank >= what ? 1 : 0;
                int[] own = {0, rank, 0, 0, 0, 0}, notOwn = {9, rank, 9, 9, 9, 9};
                due(3, "STONE: AT WHERE, RANK of WHAT or more", holds(STONE, what, there, own), enough);
                due(3, "STONE: somebody else's RANK", holds(STONE, what, together, notOwn), enough);
                due(3, "STONE: not AT WHERE", holds(STONE, what, away, own), 0);
                due(3, "COLUMN: RANK of WHAT or more", holds(COLUMN, what, away, own), enough);
                due(3, "COLUMN: somebody else's RANK", holds(COLUMN, what, together, notOwn), enough);
                due(3, "BRONZE: WHO is somebody", holds(BRONZE, what, there, own), enough);
                int[] elses = {rank, 9, 9, 9, 9, 9};
                due(3, "BRONZE: somebody AT WHERE", holds(BRONZE, what, other, elses), enough);
                due(3, "BRONZE: nobody AT WHERE", holds(BRONZE, what, away, notOwn), 0);
                int[] last = {0, 0, 0, 0, 0, rank};
                due(3, "BRONZE: the last of several", holds(BRONZE, what, together, last), Math.max(enough, what == 0 ? 1 : 0));
            }
            int[] none = new int[6];
            due(3, "BENCH: AT WHERE, whatever RANK", holds(BENCH, what, there, none), 1);
            due(3, "BENCH: not AT WHERE", holds(BENCH, what, others, none), 0);
            due(3, "PLAQUE: somebody else, too, whatever RANK", holds(PLAQUE, what, both, none), 1);
            due(3, "PLAQUE: all of them", holds(PLAQUE, what, together, none), 1);
            due(3, "PLAQUE: alone", holds(PLAQUE, what, there, none), 0);
            due(3, "PLAQUE: only others", holds(PLAQUE, what, others, none), 0);
            due(3, "CANVAS: nobody, whatever RANK", holds(CANVAS, what, away, none), 1);
            due(3, "CANVAS: WHO is somebody", holds(CANVAS, what, there, none), 0);
            due(3, "CANVAS: somebody else", holds(CANVAS, what, other, none), 0);
        }
    }

    private static void keepsAndWorth() {
        String[] gives = {"0", "1", "2", "3", "98", "99", "100", "101", "9999", "0-1", "0-100", "8192*8192*32", "8192*8192*32-1"};
        int[] held = {0, 1, 2, 3, 98, 99, 99, 99, 99, 0, 0, 0, 99};
        for (int i = 0; i < gives.length; i++) {
            StonesToCome x = new StonesToCome();
            for (int kind = 0; kind < 6; kind++) x.stone(kind, 0, 1, 9, 9);
            text(x, "cost " + gives[i]);
            int[] keeps = {held[i], held[i] / 2, 2 * held[i], held[i] / 2 + 1, 2 * held[i] + 3, 0};
            for (int kind = 0; kind < 6; kind++) due(3, "KEEPS of " + kind + ", cost " + gives[i], x.told(kind, 7), keeps[kind]);
        }
        for (int what = 0; what < 10; what++) {
            int[] worth = {what, what + 5, 9 - what, 2 * (what + 5), 9 - what - 4, 8};
            for (int kind = 0; kind < 6; kind++) {
                StonesToCome x = new StonesToCome();
                x.stone(kind, 0, 0, what, 0);
                due(3, "WORTH of " + kind + ", WHAT " + what, x.told(0, 8), worth[kind]);
                x.lay(4, 1, 0);
                due(39, "WORTH of " + kind + ", WHAT " + what, x.ask(4, kind), worth[kind]);
            }
        }
    }

    // ---- section 2

    /** The seed with which the draw number k (from 1 on) has this rest by n. */
    private static int seedFor(int k, int n, int rest) {
        for (int seed = 0; seed < 1000000; seed++) {
            Lot lot = new Lot(seed);
            for (int i = 1; i < k; i++) lot.rest(1);
            if (lot.rest(n) == rest) return seed;
        }
        throw new IllegalStateException("no seed");
    }

    private static int behindDraws(int seed, int draws) {
        Lot lot = new Lot(seed);
        for (int i = 0; i < draws; i++) lot.rest(1);
        return lot.z;
    }

    private static void lots() {
        for (int rest = 0; rest < 100; rest++) {
            int seed = seedFor(1, 100, rest);
            due(14, "not below MOVES: no more draws", drawsInAYear(seed, rest, 0), behindDraws(seed, 2));
            due(14, "below MOVES: two more draws", drawsInAYear(seed, rest + 1, 0), behindDraws(seed, 4));
            seed = seedFor(2, 100, rest);
            due(14, "not below RISES: no more draws", drawsInAYear(seed, 0, rest), behindDraws(seed, 2));
            due(14, "below RISES: one more draw", drawsInAYear(seed, 0, rest + 1), behindDraws(seed, 3));
        }
        for (int seed : new int[] {0, -1, MIN, MAX, 255, 256, -256, -257}) {
            due(14, "z wraps as an int", drawsInAYear(seed, 100, 100), behindDraws(seed, 5));
        }
        for (int one = 0; one < 6; one++) {
            for (int square = 0; square < 4; square++) moves(one, square);
            for (int rank = 0; rank < 10; rank++) rises(one, rank);
        }
    }

    private static int drawsInAYear(int seed, int moves, int rises) {
        StonesToCome x = new StonesToCome();
        x.rule(0, moves);
        x.rule(1, rises);
        x.seed(seed);
        x.years(1);
        return x.count(7);
    }

    /** The first of the two draws is the one, the second the SQUARE. */
    private static void moves(int one, int square) {
        int seed = -1;
        for (int s = 0; seed < 0; s++) {
            Lot lot = new Lot(s);
            lot.rest(100);
            if (lot.rest(6) == one && lot.rest(4) == square) seed = s;
        }
        StonesToCome x = new StonesToCome();
        x.rule(0, 100);
        x.rule(1, 0);
        for (int i = 0; i < 6; i++) x.sends(i, 0, (square + 1) % 4);
        x.seed(seed);
        x.years(1);
        for (int i = 0; i < 6; i++) due(14, one + " is AT " + square, x.person(i, 0), i == one ? square : (square + 1) % 4);
        due(14, "no RANK is more", x.city(5), 0);
    }

    private static void rises(int one, int rank) {
        StonesToCome x = new StonesToCome();
        x.rule(0, 0);
        x.rule(1, 100);
        for (int i = 0; i < 6; i++) x.sends(i, 1, rank);
        x.seed(seedFor(3, 6, one));
        x.stone(COLUMN, one, 0, rank == 9 ? 1 : rank + 1, 0);
        due(14, "(3) comes behind (2)", x.years(1), rank == 9 ? 0 : 1);
        for (int i = 0; i < 6; i++) {
            int more = rank == 9 ? 0 : rank + 1;
            due(14, "1 more (0, if it was 9)", x.person(i, 1), i == one ? more : rank);
        }
        due(14, "nobody moves", x.at(0), 63);
    }

    private static void fulfilling() {
        for (int when = 0; when < 5; when++) {
            StonesToCome x = still();
            x.years(2);
            x.stone(COLUMN, 0, 0, 0, when);
            int came = when >= 2 ? 1 : 0;
            due(14, "THE YEAR 2 is no more than WHEN " + when, x.years(1), came);
            due(3, "DONE is THE YEAR", x.told(0, 5), came == 1 ? 2 : NONE);
            due(15, "else COST is more", x.city(0), came == 1 ? 0 : 2);
            due(15, "MISSED: FULFILLED in time, or long past", x.city(1), 0);
        }
        for (int when = 0; when < 5; when++) {
            StonesToCome x = still();
            x.years(2);
            x.stone(STONE, 0, 1, 0, when);
            due(14, "it does not HOLD", x.years(1), 0);
            due(15, "THE YEAR 2 is just WHEN " + when, x.city(1), when == 2 ? 1 : 0);
            due(15, "COST is 1 more", x.city(0), 1);
            x.years(5);
            due(15, "MISSED in the year of WHEN", x.city(1), when >= 2 ? 1 : 0);
            due(15, "COST goes on", x.city(0), 6);
        }
        againAndAgain();
        StonesToCome last = still();
        goToYear(last, 9998);
        last.stone(COLUMN, 0, 0, 0, 9998);
        last.stone(COLUMN, 0, 0, 9, 9998);
        last.stone(COLUMN, 0, 0, 0, 9997);
        due(14, "one YEAR is left", last.years(100), 1);
        due(3, "DONE in the last one", last.told(0, 5), 9998);
        due(15, "MISSED in the last one", last.city(1), 1);
        due(15, "COST of the last one", last.city(0), 4);
        due(14, "no YEAR is left", last.years(100), 0);
        due(15, "COST stays", last.city(0), 4);
    }

    /** What is undone, or becomes due anew, is looked at anew. */
    private static void againAndAgain() {
        StonesToCome x = still();
        x.stone(STONE, 0, 0, 0, 0);
        due(14, "FULFILLED", x.years(1), 1);
        due(14, "what is FULFILLED is not looked at", x.years(1), 0);
        due(15, "what is FULFILLED costs nothing", x.city(0), 0);
        x.undone(0);
        due(14, "undone, but past", x.years(1), 0);
        due(15, "it costs", x.city(0), 1);
        due(15, "past: not MISSED", x.city(1), 0);
        x.set(0, 4, 3);
        due(14, "due anew", x.years(1), 1);
        due(3, "DONE is THE YEAR", x.told(0, 5), 3);
        x.undone(0);
        x.sends(0, 0, 1);
        x.set(0, 4, 4);
        x.years(1);
        due(15, "MISSED", x.city(1), 1);
        x.set(0, 4, 5);
        x.years(1);
        due(15, "MISSED again", x.city(1), 2);
    }

    private static void drawn() {
        int fifth59 = seedFor(5, 60, 59);
        int fifth0 = seedFor(5, 60, 0);
        int[] years = {0, 9939, 9940, 9941, 9998, 9999};
        int[] want = {59, 9998, 9999, 9999, 9999, 9999};
        for (int i = 0; i < years.length; i++) {
            StonesToCome x = still();
            goToYear(x, years[i]);
            x.seed(fifth59);
            due(12, "deal(1)", x.deal(1), 1);
            due(12, "WHEN THE YEAR and 59 (9999 at most)", x.told(0, 4), want[i]);
            x.seed(fifth0);
            x.deal(1);
            due(12, "WHEN THE YEAR and 0", x.told(1, 4), years[i]);
        }
        int[] by = {6, 6, 4, 10, 60};
        for (int k = 0; k < 5; k++) {
            for (int rest : new int[] {0, by[k] - 1}) {
                StonesToCome x = new StonesToCome();
                x.seed(seedFor(k + 1, by[k], rest));
                x.deal(1);
                due(12, "the rest of draw " + (k + 1) + " by " + by[k], x.told(0, k), rest);
            }
        }
        for (int z : new int[] {0, -1, MIN, MAX, -2}) {
            StonesToCome x = new StonesToCome();
            x.seed(z);
            x.deal(1);
            Lot lot = new Lot(z);
            for (int k = 0; k < 5; k++) due(12, "z >>> 8 of z " + z, x.told(0, k), lot.rest(by[k]));
            due(12, "five draws", x.count(7), lot.z);
        }
    }

    // ---- section 3

    private static void open() {
        StonesToCome x = still();
        x.years(5);
        x.stone(STONE, 0, 1, 0, 4);
        x.stone(STONE, 0, 1, 0, 5);
        x.stone(STONE, 0, 1, 0, 6);
        x.stone(STONE, 0, 0, 0, 9);
        due(15, "WHEN is THE YEAR or more", x.city(3), 0b1110);
        x.years(1);
        due(15, "not FULFILLED, WHEN is THE YEAR or more", x.city(3), 0b0100);
        due(15, "FULFILLED", x.city(2), 0b1000);
        x.undone(3);
        due(15, "not FULFILLED any more", x.city(3), 0b1100);
        StonesToCome last = still();
        goToYear(last, 9999);
        last.stone(STONE, 0, 0, 0, 9998);
        last.stone(STONE, 0, 0, 0, 9999);
        due(15, "OPEN in the last year", last.city(3), 0b10);
    }

    private static void squares(String what, StonesToCome x, int most, int... want) {
        due(16, what + ": how many", x.together(-1), most);
        for (int one = 0; one < 6; one++) due(16, what + ": the SQUARE of " + one, x.together(one), want[one]);
    }

    private static void together() {
        StonesToCome x = still();
        for (int i = 0; i < 10; i++) x.stone(BENCH, i % 6, 3, 0, 9);
        squares("all ten, with the last SQUARES of all", x, 10, 3, 3, 3, 3, 3, 3);
        StonesToCome none = still();
        for (int i = 0; i < 10; i++) none.stone(i % 2 == 0 ? BRONZE : COLUMN, 0, 3, 1, 9);
        squares("none of ten: the first SQUARES", none, 0, 0, 0, 0, 0, 0, 0);
        StonesToCome past = still();
        past.years(5);
        past.stone(BENCH, 0, 3, 0, 4);
        squares("WHEN is past", past, 0, 0, 0, 0, 0, 0, 0);
        past.set(0, 4, 5);
        squares("WHEN is THE YEAR", past, 1, 3, 0, 0, 0, 0, 0);
        past.sends(0, 0, 3);
        past.set(0, 4, 9);
        past.years(1);
        squares("it is FULFILLED", past, 0, 0, 0, 0, 0, 0, 0);
        past.undone(0);
        squares("it is not FULFILLED any more", past, 1, 3, 0, 0, 0, 0, 0);
        StonesToCome tie = still();
        tie.stone(BENCH, 5, 1, 0, 9);
        tie.stone(BENCH, 5, 2, 0, 9);
        squares("of several the first", tie, 1, 0, 0, 0, 0, 0, 1);
        tie.stone(PLAQUE, 4, 2, 0, 9);
        squares("with it the other one", tie, 2, 0, 0, 0, 0, 2, 2);
        StonesToCome first = still();
        first.stone(CANVAS, 0, 0, 0, 9);
        squares("by those of 0, of 1, ..", first, 1, 1, 1, 1, 1, 1, 1);
        first.stone(PLAQUE, 5, 3, 0, 9);
        squares("the last ones go first", first, 2, 1, 1, 1, 1, 3, 3);
        StonesToCome ranks = still();
        ranks.sends(3, 1, 8);
        ranks.stone(BRONZE, 0, 2, 8, 9);
        ranks.stone(BRONZE, 0, 3, 9, 9);
        squares("RANKS as they are", ranks, 1, 0, 0, 0, 2, 0, 0);
    }

    private static int clashes(int[] one, int[] other, int rank) {
        StonesToCome x = still();
        call(x, "stone", one);
        call(x, "stone", other);
        x.sends(0, 1, rank);
        due(17, "either way", x.clash(1, 0), x.clash(0, 1));
        return x.clash(0, 1);
    }

    private static void clash() {
        int[] benchAt1 = {BENCH, 0, 1, 0, 0}, benchAt2 = {BENCH, 0, 2, 0, 0}, otherAt2 = {BENCH, 1, 2, 0, 0};
        int[] canvas1 = {CANVAS, 0, 1, 0, 0}, canvas2 = {CANVAS, 0, 2, 0, 0}, plaque = {PLAQUE, 0, 1, 0, 0};
        int[] column = {COLUMN, 0, 3, 5, 0}, bronze = {BRONZE, 5, 2, 5, 0}, stone = {STONE, 0, 1, 5, 0};
        due(17, "one at two SQUARES", clashes(benchAt1, benchAt2, 0), 1);
        due(17, "two at two SQUARES", clashes(benchAt1, otherAt2, 0), 0);
        due(17, "twice the same", clashes(benchAt1, benchAt1, 0), 0);
        due(17, "there, and nobody there", clashes(benchAt1, canvas1, 0), 1);
        due(17, "there, and nobody elsewhere", clashes(benchAt1, canvas2, 0), 0);
        due(17, "with somebody, and nobody there", clashes(plaque, canvas1, 0), 1);
        due(17, "alone one's own clash", clashes(column, canvas1, 4), 1);
        due(17, "RANK of WHAT", clashes(column, canvas1, 5), 0);
        due(17, "only 0 has the RANK, and is elsewhere", clashes(bronze, benchAt1, 5), 1);
        due(17, "0 has the RANK, and is there", clashes(bronze, benchAt2, 5), 0);
        due(17, "nobody has the RANK", clashes(bronze, canvas1, 4), 1);
        due(17, "0 would be at two SQUARES", clashes(bronze, stone, 9), 1);
        due(17, "the RANK is enough", clashes(stone, plaque, 5), 0);
        due(17, "the RANK is not", clashes(stone, plaque, 4), 1);
    }

    /** In the last year all thoughts still go on. */
    private static void thoughtsWithoutTheBound() {
        StonesToCome x = still();
        goToYear(x, 9999);
        x.stone(BENCH, 2, 1, 3, 9999);
        x.stone(COLUMN, 4, 0, 1, 9999);
        x.stone(COLUMN, 4, 0, 9, 9998);
        x.rule(1, 100);
        int first = 0;
        Lot lot = new Lot(x.count(7));
        for (boolean risen = false; !risen; first++) {
            lot.rest(100);
            lot.rest(100);
            risen = lot.rest(6) == 4;
        }
        due(18, "behind(100, 2)", x.behind(100, 2), 100 * (0 + 2 + 2));
        due(18, "behind(100, 1)", x.behind(100, 1), 2);
        due(20, "sent(30, 0)", x.sent(30, 0), 2);
        due(20, "sent(30, 1)", x.sent(30, 1), 1);
        due(20, "sent(30, 2)", x.sent(30, 2), 1);
        due(21, "raised(60, 0)", x.raised(60, 0), 4);
        due(22, "scrap(60, 0)", x.scrap(60, 0), 1);
        due(22, "scrap(60, 1)", x.scrap(60, 1), 120);
        due(23, "becomes(0, 60, 0)", x.becomes(0, 60, 0), 5);
        due(24, "latest(1)", x.latest(1), 9999 + first - 1);
        due(19, "fulfils(1): WHEN is past", x.fulfils(1), first == 1 ? 1 : NONE);
        x.sheet(0, 0, 24);
        for (int k = 0; k < 24; k++) x.mark(0, k, x.behind(k, 3 + 4));
        due(25, "whose(0, 0)", x.whose(0, 0), 4);
        due(25, "whose(0, 1)", x.whose(0, 1), 0);
        due(46, "THE YEAR is as it was", x.count(1), 9999);
    }

    // ---- section 4

    private static void tape() {
        StonesToCome x = new StonesToCome();
        StringBuilder full = new StringBuilder("fee 1");
        while (full.length() < 93) full.append("+1");
        type(x, full + "+11");
        due(46, "96 bytes at most", x.count(6), 96);
        due(28, "96 bytes at most", x.feed(0, 0, 0), FULL);
        due(30, "all 96 are read", x.text(), 0);
        due(31, "all 96 are read", x.textTold(0, 1), 46);
        due(26, "all 96 are read", x.fee(), 45 + 11);
        due(46, "used up", x.count(6), 0);
        due(30, "an empty one: the end comes too soon", x.text(), -100);
        StonesToCome y = new StonesToCome();
        for (int i = 0; i < 14; i++) due(30, "14 at most, numbered from 0", text(y, "fee 1"), i);
        due(30, "14 at most", text(y, "fee 1"), FULL);
        due(46, "14 at most", y.count(4), 14);
    }

    /** 14 TEXTS of 96 bytes, each behind one with a FAULT at its last byte. */
    private static void fullTapes() {
        StonesToCome x = new StonesToCome();
        for (int i = 0; i < 14; i++) {
            String most = "fee 1" + many("+1", 44) + "+1";
            due(30, "a FAULT at the last byte", text(x, most + ")"), -195);
            due(26, "as it was", x.fee(), i == 0 ? 0 : 55 + (i - 1) % 10);
            due(30, "its number", text(x, most + i % 10), i);
            due(31, "NUMBERS and NAMES", x.textTold(i, 1), 46);
            due(26, "what it gives", x.fee(), 55 + i % 10);
        }
        due(30, "14 at most", text(x, "fee 1"), FULL);
        due(26, "as it was", x.fee(), 58);
    }

    private static void names() {
        String[] keys = {"cost", "fee", "fine"}, names = {"wyl", "cm", "wr"};
        for (int key = 0; key < 3; key++) {
            for (char c = 'a'; c <= 'z'; c++) {
                StonesToCome x = new StonesToCome();
                boolean is = names[key].indexOf(c) >= 0;
                due(30, "NAME " + c + " of " + keys[key], text(x, keys[key] + " " + c), is ? 0 : -100 - keys[key].length() - 1);
                due(31, "its KEY", x.textTold(0, 0), is ? key : BAD);
                due(30, "each one letter", text(x, keys[key] + " " + c + c), -100 - keys[key].length() - 1);
            }
        }
        int[] l = new int[4];
        for (int when = 3; when <= 6; when++) {
            StonesToCome x = still();
            x.years(5);
            x.stone(STONE, 0, 0, 0, when);
            text(x, "cost l+10");
            l[when - 3] = x.told(0, 7) - 10;
        }
        int[] want = {0, 0, 0, 1};
        for (int i = 0; i < 4; i++) due(3, "l: years up to WHEN " + (i + 3) + " (0, if it is past)", l[i], want[i]);
    }

    /** Each byte, where a PIECE is awaited, and behind one. */
    private static void everyByte() {
        for (int b = 0; b < 256; b++) {
            char c = (char) b;
            boolean digit = c >= '0' && c <= '9';
            int awaited = digit || c == 'c' || c == 'm' ? 0 : c == ' ' || c == '!' || c == '(' ? -105 : -104;
            due(30, "byte " + b + " where a PIECE is awaited", fault("fee " + c), awaited);
            boolean joins = "|&<=>+-*/".indexOf(c) >= 0;
            int behind = digit || c == ' ' ? 0 : joins ? -106 : -105;
            due(30, "byte " + b + " behind a PIECE", fault("fee 1" + c), behind);
            int first = c == ' ' ? 0 : -100;
            due(30, "byte " + b + " ahead of all", fault(c + "fee 1"), first);
            due(30, "byte " + b + " within the KEY", fault("fe" + c + "e 1"), -100);
            boolean letter = c >= 'a' && c <= 'z';
            int behindKey = c == ' ' || c == '!' ? 0 : c == '(' ? -105 : letter ? -100 : -103;
            due(30, "byte " + b + " right behind the KEY", fault("fee" + c + "1"), behindKey);
        }
    }

    private static void blanksAndWords() {
        String[] texts = {"fee c", "fee  c", " fee c", "fee c ", "   fee   c   ", "fee(c)", "fee!c", "fee ( c ) ", "fee c+m", "fee c + m",
            "fee 1 +c", "feec", "fee1", "fee1234", "fee c m", "fee cm", "fee c1", "fee 1c", "fee 1 c", "fee 1 2", "fee 12 ", "fee (c)m",
            "fee (c) 1", "fee c(m)", "fee c !m", "fee\tc", "fee\nc", "f ee c", "fee 1 + + 2", "fee ! ! c", "fee c+m1", "fee (1c)", "fee !1c"};
        int[] places = {-1, -1, -1, -1, -1, -1, -1, -1, -1, -1,
            -1, 0, 3, 3, 6, 4, 5, 5, 6, 6, -1, 7,
            8, 5, 6, 3, 3, 0, 8, -1, 7, 6, 6};
        due(30, "as many places as texts", places.length, texts.length);
        for (int i = 0; i < texts.length; i++) {
            due(30, "blanks and words of '" + texts[i] + "'", fault(texts[i]), places[i] < 0 ? 0 : -100 - places[i]);
        }
    }

    private static void faults() {
        for (int digits = 1; digits <= 8; digits++) {
            String number = "12345678".substring(0, digits);
            due(30, "NUMBER of " + digits + " digits", fault("fee c+" + number), digits <= 4 ? 0 : -106);
            due(26, "NUMBER of " + digits + " digits", gives(number), digits <= 4 ? Integer.parseInt(number) : -104);
            String zeros = "00000000".substring(0, digits);
            due(26, "NUMBER of " + digits + " zeros", gives(zeros), digits <= 4 ? 0 : -104);
        }
        for (int cut = 0; cut <= 8; cut++) {
            String s = "fee (1)*".substring(0, cut);
            int want = cut == 0 ? -100 : cut < 3 ? -100 : cut == 7 ? 0 : -100 - cut;
            due(30, "the end comes too soon in '" + s + "'", fault(s), want);
        }
        for (int blanks = 0; blanks <= 92; blanks++) {
            StringBuilder b = new StringBuilder("fee");
            for (int i = 0; i < blanks; i++) b.append(' ');
            due(30, "the place behind the last byte", fault(b.toString()), -103 - blanks);
            due(30, "the first byte of the sign", fault(b.append(')').toString()), -103 - blanks);
        }
        String[] tests = {"1<2", "1=2", "1>2", "1<2<3", "1<2=3", "1>2>3", "1=2=3", "(1<2)<3", "1<(2<3)", "1<2&2<3", "1<2|2<3", "1<2+3=4"};
        int[] places = {-1, -1, -1, 7, 7, 7, 7, -1, -1, -1, -1, 9};
        for (int i = 0; i < tests.length; i++) {
            due(30, "one sign of a test: " + tests[i], fault("fee " + tests[i]), places[i] < 0 ? 0 : -100 - places[i]);
        }
        due(30, "the first of two FAULTS", fault("fee ) 12345"), -104);
        due(30, "the first of two FAULTS", fault("fee 12345 )"), -104);
        due(30, "a FAULT ahead of an end that comes too soon", fault("fee ((1 1"), -108);
    }

    private static String many(String s, int n) {
        StringBuilder b = new StringBuilder();
        for (int i = 0; i < n; i++) b.append(s);
        return b.toString();
    }

    private static void depths() {
        for (int n = 0; n <= 20; n++) {
            due(30, n + " ( within others", fault("fee " + many("(", n) + "1" + many(")", n)), n <= 8 ? 0 : -112);
            due(30, n + " ! within others", fault("fee " + many("!", n) + "1"), n <= 8 ? 0 : -112);
            int both = n <= 8 ? 0 : -104 - 16;
            due(30, n + " !( each by itself", fault("fee " + many("!(", n) + "1" + many(")", n)), both);
            due(30, n + " (! each by itself", fault("fee " + many("(!", n) + "1" + many(")", n)), both);
            due(30, n + " ( of which none closes", fault("fee " + many("(", n) + "1"), n == 0 ? 0 : n <= 8 ? -105 - n : -112);
            due(30, n + " ) too many", fault("fee (1)" + many(")", n)), n == 0 ? 0 : -107);
        }
        String eight = many("(", 8) + "1" + many(")", 8);
        due(30, "eight ( behind eight that are closed", fault("fee " + eight + "+" + eight + "*" + eight + "-" + eight), 0);
        due(30, "the ninth behind eight that are closed", fault("fee " + eight + "+(" + eight + ")"), -104 - 17 - 9);
        due(30, "eight ! behind eight that are closed", fault("fee " + many("!", 8) + "1&" + many("!", 8) + "c=" + many("!", 8) + "(1)"), 0);
        due(30, "the ninth ! behind eight that are closed", fault("fee " + many("!", 8) + "1+" + many("!", 9) + "c"), -104 - 10 - 8);
        due(26, "eight ! give what is true", gives(many("!", 8) + "7"), 1);
        due(26, "seven ! give what is not", gives(many("!", 7) + "7"), 0);
        due(26, "eight ( give what is in them", gives(eight + "+1"), 2);
    }

    private static void values() {
        String least = "(0-8192*8192*32)", greatest = "(8192*8192*32-1)";
        String[] texts = {least, greatest, least + "-1", greatest + "+1", least + "*(0-1)", least + "/(0-1)", greatest + "*2",
            least + "*" + least, "0-" + least, "1/0", "0/0", least + "/0", "(1-1)/(2-2)", "1|1/0", "0&1/0", "1/0|1",
            least + "<" + greatest, greatest + "<" + least, least + "=" + least, "0-1|0", "0-1&2", "(0-1)&2", "!(0-1)", "!" + least,
            "2&4", "2|4", "0|0", "0&0", "0|2", "2|0", "0&2", "2&0", "!0", "!1", "!2", "3=3", "3<3", "3>3", "2<3", "3<2", "2>3", "3>2", "2=3",
            "9-3-2", "64/4/2", "2-3+4", "12/5*5", "12*5/7", "1|0&0", "0&0|1", "1+1=2", "2=1+1", "1<2=1|0"};
        int[] want = {MIN, MAX, MAX, MIN, MIN, MIN, -2,
            0, MIN, 0, 0, 0, 0, 1, 0, 1,
            1, 0, 1, 1, 1, 1, 0, 0,
            1, 1, 0, 0, 1, 1, 0, 0, 1, 0, 0, 1, 0, 0, 1, 0, 0, 1, 0,
            4, 8, 3, 10, 8, 1, 1, 1, 1, -107};
        due(30, "as many answers as texts", want.length, texts.length);
        for (int i = 0; i < texts.length; i++) due(26, "what '" + texts[i] + "' gives", gives(texts[i]), want[i]);
    }

    private static void toldLast() {
        StonesToCome x = still();
        x.stone(STONE, 0, 1, 0, 70);
        int[] told = {NONE, NONE, NONE};
        String[] keys = {"cost", "fee", "fine"};
        int[] order = {0, 1, 2, 2, 1, 0, 1, 0, 2};
        for (int i = 0; i < order.length; i++) {
            due(30, "TEXT " + i, text(x, keys[order[i]] + " " + (i + 1)), i);
            told[order[i]] = i;
            text(x, keys[order[i]] + " 99 99");
            for (int key = 0; key < 3; key++) due(32, "that TEXT counts that was told last", x.why(key), told[key]);
            due(3, "cost", x.told(0, 7), told[0] == NONE ? 1 : told[0] + 1);
            due(26, "fee (without a TEXT: COST)", x.fee(), told[1] == NONE ? 0 : told[1] + 1);
            due(27, "fine (without a TEXT: WHEN)", x.fine(0), told[2] == NONE ? 70 : told[2] + 1);
        }
    }

    // ---- section 5

    private static int itemOf(StonesToCome x, int sheet, int place) {
        x.lay(4, 2, sheet);
        return x.item(4, place);
    }

    private static void sheets() {
        for (int sheet = 0; sheet < 4; sheet++) {
            for (int sort = 0; sort < 2; sort++) {
                StonesToCome x = new StonesToCome();
                due(36, "MISSING (at first)", x.reads(sheet), NOTHING);
                due(33, "0 places", x.sheet(sheet, sort, 0), 0);
                due(36, "0 places are not MISSING", x.reads(sheet), NONE);
                due(40, "0 places", itemOf(x, sheet, 0), INDEX);
                due(33, "24 places", x.sheet(sheet, sort, 24), 24);
                for (int place = 0; place < 24; place++) due(40, "all 0", itemOf(x, sheet, place), 0);
                due(40, "24 places", itemOf(x, sheet, 24), INDEX);
                due(40, "24 places", itemOf(x, sheet, -1), INDEX);
                for (int place = 0; place < 24; place++) x.mark(sheet, place, 100 + place);
                for (int place = 0; place < 24; place++) due(40, "each place by itself", itemOf(x, sheet, place), 100 + place);
                due(33, "of another sort", x.sheet(sheet, 1 - sort, 24), 24);
                for (int place = 0; place < 24; place++) due(40, "all 0 again", itemOf(x, sheet, place), 0);
                for (int other = 0; other < 4; other++) due(36, "no other SHEET", x.reads(other) == NOTHING ? 0 : 1, other == sheet ? 1 : 0);
                due(33, "MISSING again", x.sheet(sheet, -1, MAX), 0);
                due(36, "MISSING again", x.reads(sheet), NOTHING);
            }
        }
        noNumber();
    }

    private static void noNumber() {
        StonesToCome x = new StonesToCome();
        x.sheet(0, 1, 3);
        due(34, "NO NUMBER", x.mark(0, 1, NONE), 1);
        due(40, "NO NUMBER", itemOf(x, 0, 1), KIND);
        due(40, "a place of its own", itemOf(x, 0, 0), 0);
        due(40, "a place of its own", itemOf(x, 0, 2), 0);
        due(34, "a number again", x.mark(0, 1, 0), 1);
        due(40, "a number again", itemOf(x, 0, 1), 0);
        due(34, "the least of floats", x.mark(0, 1, -99999), 1);
        due(40, "the least of floats", itemOf(x, 0, 1), -99999);
        due(34, "the greatest of floats", x.mark(0, 1, 99999), 1);
        due(40, "the greatest of floats", itemOf(x, 0, 1), 99999);
        x.sheet(1, 0, 1);
        int[] shorts = {0, 32767, 32768, 65535, 65536, 65537, -1, -32768, -32769, -65536, MIN, MAX, BAD, NONE + 1, NONE - 1, 99999, 100000};
        for (int v : shorts) {
            due(34, "of shorts " + v, x.mark(1, 0, v), 1);
            int low = v & 65535;
            due(40, "the lowest 16 bits of " + v, itemOf(x, 1, 0), low > 32767 ? low - 65536 : low);
        }
    }

    private static void slots() {
        for (int slot = 0; slot < 5; slot++) {
            StonesToCome x = still();
            x.stone(BENCH, 0, 0, 3, 9);
            x.sheet(0, 0, 2);
            due(38, "nothing (at first)", x.lay(slot, 0, MIN), 0);
            due(38, "nothing again", x.lay(slot, 1, 0), 0);
            due(38, "a STONE", x.lay(slot, 2, 0), 1);
            due(38, "a SHEET", x.lay(slot, 3, MAX), 2);
            due(41, "a number", x.rest(slot, MAX), 0);
            due(38, "a number", x.lay(slot, 3, MIN), 3);
            due(41, "a number", x.rest(slot, MAX), -1);
            due(38, "a number", x.lay(slot, 3, 0), 3);
            due(41, "0 is a number", x.rest(slot, 5), 0);
            for (int other = 0; other < 5; other++) if (other != slot) due(38, "no other SLOT", x.lay(other, 0, 0), 0);
            due(38, "a number", x.lay(slot, 1, 0), 3);
            x.keep();
            x.turns(0, CANVAS);
            x.set(0, 3, 9);
            due(39, "as it is then, for good", x.ask(slot, BENCH), 8);
            x.back();
            due(39, "SLOTS are in no IMAGE", x.ask(slot, BENCH), 8);
            x.lay(slot, 2, 0);
            x.mark(0, 1, 7);
            due(40, "a row of its own, as it was then", x.item(slot, 1), 0);
            x.sheet(0, 0, 1);
            due(40, "a row of its own, as it was then", x.item(slot, 1), 0);
            due(40, "a row of its own, as it was then", x.item(slot, 2), INDEX);
            x.sheet(0, 1, 9);
            x.sheet(0, -1, 0);
            due(40, "a row of its own, as it was then", x.item(slot, 1), 0);
            due(38, "nothing", x.lay(slot, 0, 0), 2);
            due(40, "nothing", x.item(slot, 0), NOTHING);
        }
    }

    /** Each thing that AN IMAGE keeps, changed by itself. */
    private static void images() {
        StonesToCome x = still();
        x.stone(BENCH, 1, 0, 2, 9);
        x.years(1);
        x.stone(STONE, 2, 3, 4, 50);
        text(x, "fee 5");
        due(44, "how many STONES", x.keep(), 2);
        String[] names = {"stone", "turns", "set", "set", "set", "set", "undone", "sends", "sends", "rule", "rule", "deal", "seed", "years"};
        int[][] args = {{0, 0, 0, 0, 0}, {0, 4}, {0, 1, 5}, {0, 2, 3}, {0, 3, 9}, {0, 4, 0}, {0}, {1, 0, 3}, {5, 1, 9}, {0, 50}, {1, 50},
            {3}, {99}, {7}};
        for (int i = 0; i < names.length; i++) {
            int was = call(x, names[i], args[i]);
            due(45, "taken: " + shown(names[i], args[i]), was == BAD || was == NO || was == FULL ? 0 : 1, 1);
            due(45, "again and again", x.back(), 2);
            asKept(x, shown(names[i], args[i]));
        }
        text(x, "fee 6");
        text(x, "cost 7");
        due(45, "TEXTS", x.back(), 2);
        asKept(x, "text()");
        due(45, "twice", x.back(), 2);
        asKept(x, "back()");
    }

    private static void asKept(StonesToCome x, String behind) {
        int[] counts = {2, 1, 0, 0, 1};
        for (int i = 0; i < 5; i++) due(45, "count(" + i + ") behind " + behind, x.count(i), counts[i]);
        due(45, "z behind " + behind, x.count(7), behindDraws(1, 2));
        int[] first = {BENCH, 1, 0, 2, 9, 0};
        for (int i = 0; i < 6; i++) due(45, "told(0, " + i + ") behind " + behind, x.told(0, i), first[i]);
        due(45, "AT behind " + behind, x.at(0), 63);
        due(45, "RANKS behind " + behind, x.city(5), 0);
        due(45, "COST behind " + behind, x.city(0), 0);
        due(45, "fee() behind " + behind, x.fee(), 5);
        due(45, "why(0) behind " + behind, x.why(0), NONE);
    }

    /** One STONE that costs 1 a YEAR: COST k and RANKS 0 behind k YEARS. */
    private static void yearsTold() {
        for (int left : new int[] {0, 1, 2, 28, 29, 30, 31}) {
            for (int n : new int[] {1, 2, 29, 30}) {
                StonesToCome x = still();
                goToYear(x, 9999 - left);
                x.stone(STONE, 0, 1, 0, 0);
                x.keep();
                int many = Math.min(n, left);
                for (int k = 1; k <= many; k++) {
                    x.tell(k);
                    x.tell(0);
                }
                due(43, n + " of " + left + " YEARS (fewer, if THE YEAR would be above 9999)", x.check(n), 0);
                for (int k = 1; k <= many; k++) {
                    x.tell(k);
                    if (k < many) x.tell(0);
                }
                due(43, "the last one is missing", x.check(n), many == 0 ? 0 : 2 * many);
                for (int k = 1; k <= many; k++) {
                    x.tell(k);
                    x.tell(0);
                }
                int more = x.tell(many + 1);
                due(43, "one too many", x.check(n), more == FULL ? 0 : 2 * many + 1);
            }
        }
    }
}
