/**
 * Promises 1 to 46, the answers at their edges: the first and the last value that is taken, the empty and the full row, the one
 * of several that is told, what comes just in time and what just too late. (RefusalTests has what is not taken.)
 */
public final class EdgeTests extends Checks {
    private static final int STONE = 0, BENCH = 1, COLUMN = 2, PLAQUE = 3, BRONZE = 4, CANVAS = 5;

    public static void main(String[] args) {
        newObject();
        lastOfTen();
        turns();
        set();
        undone();
        deal();
        years();
        city();
        justBehind();
        comes();
        sent();
        raised();
        scrap();
        becomes();
        latest();
        whose();
        feedAndTrim();
        textAndWhy();
        mark();
        pour();
        reads();
        copy();
        rest();
        tellAndCheck();
        keepAndBack();
        goneForGood();
        count();
        end();
    }

    /** Number 0 rises in the YEAR that is number first (from 0 on) and in none ahead of it; nothing else is by lot. */
    private static StonesToCome risesIn(int first) {
        for (int seed = 0; seed < 1000000; seed++) {
            Lot lot = new Lot(seed);
            int year = 0;
            for (boolean risen = false; !risen && year <= first + 1; year++) {
                lot.rest(100);
                risen = lot.rest(100) < 4 && lot.rest(6) == 0;
            }
            if (year == first + 1) {
                StonesToCome x = new StonesToCome();
                x.rule(0, 0);
                x.rule(1, 4);
                x.seed(seed);
                return x;
            }
        }
        throw new IllegalStateException("no seed");
    }

    // ---- promises 1 to 13

    private static void newObject() {
        StonesToCome x = new StonesToCome();
        due(1, "no STONES: keep()", x.keep(), 0);
        due(1, "no STONES: back()", x.back(), 0);
        due(1, "no STONES: fee()", x.fee(), 0);
        due(1, "no STONES: sent", x.sent(30, 2), 0);
        due(1, "no STONES: raised", x.raised(60, 1), 0);
        due(1, "no STONES: years(100)", x.years(100), 0);
        due(1, "no STONES: COST", x.city(0), 0);
        due(1, "no STONES: MISSED", x.city(1), 0);
        due(1, "no STONES: behind(100, 0)", x.behind(100, 0), 0);
        for (int what = 2; what < 5; what++) due(1, "no STONES: city(" + what + ")", x.city(what), 0);
        due(1, "THE IMAGE is of the year 0", x.back() + x.count(1), 0);
    }

    private static void lastOfTen() {
        StonesToCome x = still();
        x.deal(9);
        due(2, "the tenth", x.stone(BRONZE, 5, 3, 9, 9999), 9);
        int[] told = {BRONZE, 5, 3, 9, 9999, NONE, 0, 5, -4};
        for (int what = 0; what < 9; what++) due(3, "told(9, " + what + ")", x.told(9, what), told[what]);
        due(4, "as(9, 2)", x.as(9, COLUMN), 9);
        due(4, "as(9, 1)", x.as(9, BENCH), KIND);
        due(17, "clash(9, 8)", x.clash(9, 8), 1);
        due(19, "fulfils(9)", x.fulfils(9), NONE);
        due(24, "latest(9)", x.latest(9), NONE);
        due(27, "fine(9)", x.fine(9), 9999);
        due(23, "becomes(9, 1, 0)", x.becomes(9, 1, 0), CANVAS);
        due(38, "lay(0, 1, 9)", x.lay(0, 1, 9), 0);
        due(39, "ask(0, 4)", x.ask(0, BRONZE), -4);
        due(6, "set(9, 4, 0)", x.set(9, 4, 0), 9999);
        due(5, "turns(9, 5)", x.turns(9, CANVAS), BRONZE);
        x.years(1);
        due(3, "told(9, 5)", x.told(9, 5), 0);
        due(15, "city(2) of the tenth", x.city(2) >> 9, 1);
        due(7, "undone(9)", x.undone(9), 1);
    }

    private static void turns() {
        for (int from = 0; from < 6; from++) {
            for (int to = 0; to < 6; to++) {
                StonesToCome x = still();
                x.stone(from, 1, 2, 3, 4);
                due(5, "turns to " + to + ": what it was", x.turns(0, to), from);
                int[] told = {to, 1, 2, 3, 4, NONE};
                for (int what = 0; what < 6; what++) due(5, "told(0, " + what + ")", x.told(0, what), told[what]);
                due(5, "and back: what it was", x.turns(0, from), to);
            }
        }
        StonesToCome x = still();
        x.stone(CANVAS, 0, 3, 0, 9);
        x.years(1);
        x.turns(0, BENCH);
        due(5, "it stays FULFILLED", x.told(0, 5), 0);
        due(5, "whether it HOLDS is by its KIND", x.told(0, 6), 0);
    }

    private static void set() {
        int[] last = {0, 5, 3, 9, 9999};
        for (int what = 1; what <= 4; what++) {
            StonesToCome x = new StonesToCome();
            x.stone(STONE, 2, 2, 2, 2);
            due(6, "set to 0", x.set(0, what, 0), 2);
            due(6, "set to the last", x.set(0, what, last[what]), 0);
            due(6, "set to the same", x.set(0, what, last[what]), last[what]);
            for (int k = 1; k <= 4; k++) due(6, "only that one", x.told(0, k), k == what ? last[what] : 2);
            due(6, "KIND stays", x.told(0, 0), STONE);
        }
        StonesToCome x = still();
        x.stone(BENCH, 0, 0, 0, 9);
        x.years(1);
        x.set(0, 1, 5);
        x.set(0, 4, 0);
        due(6, "it stays FULFILLED", x.told(0, 5), 0);
        x.sends(5, 0, 1);
        due(6, "HOLDS by its new WHO", x.told(0, 6), 0);
        x.set(0, 2, 1);
        due(6, "HOLDS by its new WHERE", x.told(0, 6), 1);
    }

    private static void undone() {
        StonesToCome x = still();
        x.stone(BENCH, 0, 0, 0, 9);
        due(7, "not FULFILLED at first", x.undone(0), NO);
        x.years(1);
        due(7, "FULFILLED in the year 0", x.undone(0), 1);
        due(7, "not any more", x.undone(0), NO);
        due(7, "HOLDS still", x.told(0, 6), 1);
        due(14, "FULFILLED once more", x.years(1), 1);
        due(7, "DONE anew", x.told(0, 5), 1);
    }

    private static void deal() {
        for (int there = 0; there <= 10; there++) {
            for (int n : new int[] {1, 9, 10}) {
                StonesToCome x = new StonesToCome();
                for (int i = 0; i < there; i++) x.stone(0, 0, 0, 0, 0);
                x.seed(7);
                int came = Math.min(n, 10 - there);
                due(12, "deal(" + n + ") with " + there, x.deal(n), came);
                due(12, "how many are there", x.count(0), there + came);
                Lot lot = new Lot(7);
                for (int i = 0; i < 5 * came; i++) lot.rest(1);
                due(12, "no draws for others", x.count(7), lot.z);
                if (there > 0) due(12, "those that were there stay", x.told(there - 1, 4), 0);
            }
        }
    }

    // ---- promises 14 to 17

    private static void years() {
        for (int n : new int[] {1, 2, 99, 100}) {
            StonesToCome x = new StonesToCome();
            StonesToCome y = new StonesToCome();
            x.deal(10);
            y.deal(10);
            int came = 0;
            for (int i = 0; i < n; i++) came += y.years(1);
            due(14, "years(" + n + "): all that were FULFILLED in them", x.years(n), came);
            due(14, "THE YEAR", x.count(1), n);
            due(14, "z", x.count(7), y.count(7));
            for (int what = 0; what < 6; what++) due(15, "city(" + what + ")", x.city(what), y.city(what));
        }
        for (int left = 0; left <= 3; left++) {
            for (int n = 1; n <= 4; n++) {
                StonesToCome x = still();
                goToYear(x, 9999 - left);
                x.stone(STONE, 0, 1, 0, 0);
                x.seed(5);
                due(14, "none HOLDS", x.years(n), 0);
                due(14, "no more than up to 9999", x.count(1), Math.min(9999, 9999 - left + n));
                due(14, "COST of those alone", x.city(0), Math.min(left, n));
                Lot lot = new Lot(5);
                for (int i = 0; i < 2 * Math.min(left, n); i++) lot.rest(1);
                due(14, "draws of those alone", x.count(7), lot.z);
            }
        }
    }

    private static void city() {
        StonesToCome x = still();
        for (int one = 0; one < 6; one++) x.sends(one, 1, 9);
        due(15, "RANKS, together, at most", x.city(5), 54);
        for (int i = 0; i < 10; i++) x.stone(COLUMN, i % 6, 0, 9, i);
        due(15, "all HOLD", x.city(4), 1023);
        due(15, "all are OPEN", x.city(3), 1023);
        due(14, "all come true", x.years(1), 10);
        due(15, "all are FULFILLED", x.city(2), 1023);
        due(15, "none is OPEN", x.city(3), 0);
        due(15, "FULFILLED ones HOLD, too", x.city(4), 1023);
        due(15, "COST", x.city(0), 0);
        due(15, "MISSED", x.city(1), 0);
        StonesToCome y = still();
        for (int i = 0; i < 10; i++) y.stone(BRONZE, 0, 0, 9, 0);
        text(y, "cost 100");
        y.years(100);
        due(15, "COST of ten at most", y.city(0), 10 * 201 * 100);
        due(15, "MISSED of ten", y.city(1), 10);
    }

    // ---- promises 18 to 25

    /** A RISE in YEAR number 4 counts behind 5 YEARS, not behind 4. */
    private static void justBehind() {
        for (int first : new int[] {0, 4, 29}) {
            for (int n = Math.max(first, 1); n <= first + 1; n++) {
                int many = n == first + 1 ? 1 : 0;
                StonesToCome x = risesIn(first);
                x.stone(COLUMN, 0, 3, 1, 9999);
                due(18, "behind(" + n + ", 0)", x.behind(n, 0), many);
                due(18, "behind(" + n + ", 2)", x.behind(n, 2), 2 * first);
                due(18, "behind(" + n + ", 3)", x.behind(n, 3), many);
                due(20, "sent(" + n + ", 2)", x.sent(n, 2), many);
                // As CANVAS it would come true at once.
                due(23, "becomes(0, " + n + ", 0)", x.becomes(0, n, 0), many == 1 ? COLUMN : CANVAS);
                due(22, "scrap(" + n + ", 1)", x.scrap(n, 1), 0);
                x.stone(COLUMN, 0, 0, 2, 9999);
                due(21, "raised(" + n + ", 1)", x.raised(n, 1), many == 1 ? 2 : 1);
            }
        }
        StonesToCome now = new StonesToCome();
        now.deal(10);
        now.years(30);
        due(18, "behind(0, 0)", now.behind(0, 0), Integer.bitCount(now.city(2)));
        due(18, "behind(0, 1)", now.behind(0, 1), now.city(1));
        due(18, "behind(0, 2)", now.behind(0, 2), now.city(0));
        for (int one = 0; one < 6; one++) due(18, "behind(0, 3 and " + one + ")", now.behind(0, 3 + one), now.person(one, 1));
        for (int n : new int[] {1, 99, 100}) {
            now.keep();
            int[] thought = new int[9];
            for (int what = 0; what < 9; what++) thought[what] = now.behind(n, what);
            now.years(n);
            due(18, "behind(" + n + ", 0)", thought[0], Integer.bitCount(now.city(2)));
            due(18, "behind(" + n + ", 1)", thought[1], now.city(1));
            due(18, "behind(" + n + ", 2)", thought[2], now.city(0));
            for (int one = 0; one < 6; one++) due(18, "behind(" + n + ", 3 and " + one + ")", thought[3 + one], now.person(one, 1));
            now.back();
        }
    }

    private static void comes() {
        for (int first : new int[] {0, 1, 198, 199, 200, 201}) {
            StonesToCome x = risesIn(first);
            x.stone(COLUMN, 0, 0, 1, first);
            due(19, "just by WHEN, in YEAR " + first, x.fulfils(0), first <= 199 ? first + 1 : NONE);
            x.set(0, 4, 9999);
            due(19, "long ahead of WHEN, in YEAR " + first, x.fulfils(0), first <= 199 ? first + 1 : NONE);
            if (first > 0) {
                x.set(0, 4, first - 1);
                due(19, "just too late, in YEAR " + first, x.fulfils(0), NONE);
            }
        }
        StonesToCome x = still();
        x.stone(BENCH, 0, 0, 0, 0);
        due(19, "in the YEAR to come", x.fulfils(0), 1);
        x.years(1);
        due(19, "it is FULFILLED: behind 0", x.fulfils(0), 0);
        x.undone(0);
        due(19, "undone, and past", x.fulfils(0), NONE);
        x.set(0, 4, 1);
        due(19, "undone, WHEN is THE YEAR", x.fulfils(0), 1);
    }

    private static void sent() {
        for (int one = 0; one < 6; one++) {
            for (int square = 0; square < 4; square++) {
                StonesToCome x = still();
                for (int i = 0; i < 6; i++) x.sends(i, 0, (square + 1) % 4);
                x.stone(BENCH, one, square, 0, 0);
                for (int n : new int[] {1, 30}) {
                    due(20, "the one", x.sent(n, 0), one);
                    due(20, "the SQUARE", x.sent(n, 1), square);
                    due(20, "how many are FULFILLED", x.sent(n, 2), 1);
                }
            }
        }
        StonesToCome x = still();
        x.stone(BENCH, 0, 0, 0, 9);
        due(20, "nobody need move: the first one", x.sent(1, 0), 0);
        due(20, "nobody need move: the first SQUARE", x.sent(1, 1), 0);
        x.stone(BENCH, 0, 3, 0, 9);
        x.stone(BENCH, 5, 3, 0, 9);
        due(20, "two at most: 5 goes, 0 stays", x.sent(1, 0) * 10 + x.sent(1, 1), 53);
        x.years(1);
        due(20, "FULFILLED ones count: 0 may go now", x.sent(1, 0) * 10 + x.sent(1, 1), 3);
        due(20, "FULFILLED ones count", x.sent(1, 2), 2);
        StonesToCome past = still();
        past.years(1);
        past.stone(BENCH, 3, 2, 0, 0);
        due(20, "WHEN is past", past.sent(30, 2), 0);
        due(20, "WHEN is past: the first one", past.sent(30, 0), 0);
    }

    private static void raised() {
        for (int one = 0; one < 6; one++) {
            for (int rank = 0; rank < 9; rank++) {
                StonesToCome x = still();
                for (int i = 0; i < 6; i++) x.sends(i, 1, rank);
                x.stone(COLUMN, one, 0, rank + 1, 0);
                for (int n : new int[] {1, 60}) {
                    due(21, "the one", x.raised(n, 0), one);
                    due(21, "how many are FULFILLED", x.raised(n, 1), 1);
                }
            }
        }
        StonesToCome x = still();
        for (int i = 0; i < 6; i++) x.sends(i, 1, 9);
        for (int i = 0; i < 6; i++) x.stone(COLUMN, i, 0, 9, 0);
        due(21, "9 at most: all are FULFILLED", x.raised(1, 1), 6);
        due(21, "of several the least", x.raised(1, 0), 0);
        StonesToCome two = still();
        two.stone(COLUMN, 3, 0, 1, 0);
        two.stone(COLUMN, 4, 0, 1, 0);
        due(21, "of several the least", two.raised(60, 0), 3);
        two.stone(STONE, 4, 0, 1, 0);
        due(21, "most", two.raised(60, 0), 4);
        StonesToCome wraps = risesIn(0);
        wraps.sends(0, 1, 8);
        wraps.stone(COLUMN, 0, 0, 9, 0);
        due(21, "raised to 9, and then 0 by lot", wraps.raised(1, 0), 1);
        due(21, "without it 9 by lot", wraps.raised(1, 1), 1);
    }

    private static void scrap() {
        for (int dear = 0; dear < 10; dear++) {
            StonesToCome x = still();
            for (int i = 0; i < 10; i++) x.stone(i == dear ? BRONZE : COLUMN, 0, 0, 9, 9);
            for (int n : new int[] {1, 60}) {
                due(22, "the STONE", x.scrap(n, 0), dear);
                due(22, "COST", x.scrap(n, 1), 18 * n);
            }
            x.turns((dear + 1) % 10, BRONZE);
            due(22, "of several the least", x.scrap(60, 0), Math.min(dear, (dear + 1) % 10));
        }
        StonesToCome one = still();
        one.stone(COLUMN, 0, 0, 9, 9);
        one.years(5);
        due(22, "the only one", one.scrap(60, 0), 0);
        due(22, "COST up to now stays", one.scrap(60, 1), 10);
        StonesToCome x = risesIn(4);
        x.stone(COLUMN, 0, 0, 1, 9999);
        x.stone(STONE, 5, 1, 0, 0);
        due(22, "8 ahead of 4", x.scrap(4, 0), 0);
        due(22, "8 ahead of 8: the least", x.scrap(8, 0), 0);
        due(22, "8 ahead of 8", x.scrap(8, 1), 8);
        due(22, "9 ahead of 8", x.scrap(9, 0), 1);
        due(22, "9 ahead of 8", x.scrap(9, 1), 8);
        StonesToCome law = still();
        law.stone(STONE, 0, 1, 0, 9);
        law.stone(STONE, 0, 1, 5, 9);
        text(law, "cost (w=0)*y*7+w");
        due(22, "THE YEAR goes on in thoughts: 0 and 10", law.scrap(2, 0), 1);
        due(22, "THE YEAR goes on in thoughts: 21 and 15", law.scrap(3, 0), 0);
        due(22, "THE YEAR goes on in thoughts", law.scrap(3, 1), 15);
    }

    private static void becomes() {
        int[][] at = {{2, 2}, {2, 0}, {0, 2}, {0, 0}};
        // Number 1 to be AT 2 with a RANK of 5: its SQUARE and another one's, its RANK and the other one's, the KIND.
        int[][] cases = {{0, 5, 0, STONE}, {0, 4, 0, BENCH}, {1, 4, 9, BENCH}, {2, 5, 4, COLUMN}, {2, 4, 5, BRONZE}, {2, 4, 4, STONE},
            {3, 4, 9, CANVAS}, {3, 5, 9, COLUMN}};
        for (int i = 0; i < cases.length; i++) {
            for (int kind = 0; kind < 6; kind++) {
                StonesToCome x = still();
                x.stone(kind, 1, 2, 5, 0);
                x.sends(1, 0, at[cases[i][0]][0]);
                x.sends(4, 0, at[cases[i][0]][1]);
                x.sends(1, 1, cases[i][1]);
                x.sends(4, 1, cases[i][2]);
                int many = i == 5 ? 0 : 1;
                due(23, "case " + i + ", the KIND, of several the least", x.becomes(0, 1, 0), cases[i][3]);
                due(23, "case " + i + ", the KIND", x.becomes(0, 60, 0), cases[i][3]);
                due(23, "case " + i + ", how many", x.becomes(0, 60, 1), many);
                due(23, "its KIND stays", x.told(0, 0), kind);
            }
        }
        StonesToCome x = still();
        x.stone(CANVAS, 0, 3, 0, 9);
        x.years(1);
        due(23, "it is FULFILLED, whatever its KIND", x.becomes(0, 1, 0), 0);
        due(23, "it is FULFILLED, whatever its KIND", x.becomes(0, 1, 1), 1);
        x.undone(0);
        x.set(0, 4, 0);
        due(23, "WHEN is past", x.becomes(0, 60, 1), 0);
    }

    private static void latest() {
        for (int first : new int[] {0, 1, 59, 60, 61, 62}) {
            StonesToCome x = risesIn(first);
            x.stone(COLUMN, 0, 0, 1, 0);
            x.stone(CANVAS, 0, 3, 0, 0);
            due(24, "THE YEAR up to 60 more: " + first, x.latest(0), first <= 60 ? first : NONE);
            due(24, "WHEN is as it was", x.told(0, 4), 0);
            due(24, "another one, at once", x.latest(1), 0);
        }
        StonesToCome x = still();
        x.stone(CANVAS, 0, 3, 0, 0);
        x.years(1);
        due(24, "it is FULFILLED", x.latest(0), NO);
        x.turns(0, COLUMN);
        x.set(0, 3, 9);
        due(24, "NO stands ahead of NONE", x.latest(0), NO);
        x.undone(0);
        due(24, "with none", x.latest(0), NONE);
        x.set(0, 3, 0);
        due(24, "THE YEAR, though WHEN was past", x.latest(0), 1);
    }

    private static void whose() {
        StonesToCome x = still();
        for (int one = 0; one < 6; one++) x.sends(one, 1, 9 - one);
        for (int sheet = 0; sheet < 4; sheet++) {
            x.sheet(sheet, 0, 1);
            for (int one = 0; one < 6; one++) {
                x.mark(sheet, 0, 9 - one);
                due(25, "each one by its RANK", x.whose(sheet, 0), one);
                due(25, "no difference", x.whose(sheet, 1), 0);
            }
        }
        x.mark(0, 0, 32767);
        due(25, "far above", x.whose(0, 0), 0);
        due(25, "far above", x.whose(0, 1), 32767 - 9);
        x.mark(0, 0, -32768);
        due(25, "far below", x.whose(0, 0), 5);
        due(25, "far below", x.whose(0, 1), 32768 + 4);
        x.sheet(1, 1, 24);
        for (int k = 0; k < 24; k++) x.mark(1, k, -99999);
        due(25, "24 places, together", x.whose(1, 1), 24 * (99999 + 4));
        due(25, "24 places, together", x.whose(1, 0), 5);
        for (int k = 0; k < 23; k++) x.mark(1, k, NONE);
        due(25, "the last place alone", x.whose(1, 1), 99999 + 4);
        x.mark(1, 23, NONE);
        due(25, "no number: no difference", x.whose(1, 1), 0);
        due(25, "no number: the least", x.whose(1, 0), 0);
        x.sheet(1, 1, 0);
        due(25, "no place: no difference", x.whose(1, 1), 0);
        due(25, "no place: the least", x.whose(1, 0), 0);
        StonesToCome y = risesIn(4);
        y.sheet(0, 0, 6);
        y.mark(0, 5, 1);
        due(25, "RANK behind 5 YEARS, not behind 4", y.whose(0, 1), 0);
        y.mark(0, 4, 1);
        due(25, "RANK behind 5 YEARS, not behind 4", y.whose(0, 1), 1);
    }

    // ---- promises 28 to 32

    private static void feedAndTrim() {
        for (int there = 80; there <= 96; there++) {
            StonesToCome x = new StonesToCome();
            for (int i = 0; i < 8; i++) x.feed(0, 0, 0);
            due(29, "trim(" + there + ")", x.trim(there), there);
            due(28, "twelve more than " + there, x.feed(1, 2, 3), there <= 84 ? there + 12 : FULL);
            due(46, "how many it has", x.count(6), there <= 84 ? there + 12 : there);
        }
        StonesToCome x = new StonesToCome();
        due(29, "an empty one", x.trim(0), 0);
        x.feed(0x66656520, 0x63303030, 0x30303030);
        due(29, "all of it", x.trim(12), 12);
        due(29, "its first 5", x.trim(5), 5);
        x.feed(0x2b322020, 0x20202020, 0x20202020);
        due(28, "behind them", x.count(6), 17);
        due(30, "fee c+2", x.text(), 0);
        due(26, "fee c+2", x.fee(), 2);
        // The highest byte of each number first, also of negative ones.
        x.feed(0x66656520, 0x31202020, 0xff202020);
        due(30, "byte 255 at place 8", x.text(), -108);
        x.feed(0x66656520, 0x31202020, 0x202020ff);
        due(30, "byte 255 at place 11", x.text(), -111);
        x.feed(0x66656520, 0x312020ff, 0x20202020);
        due(30, "byte 255 at place 7", x.text(), -107);
        x.feed(0x66656580, 0x31202020, 0x20202020);
        due(30, "byte 128 at place 3", x.text(), -103);
    }

    private static void textAndWhy() {
        StonesToCome x = new StonesToCome();
        String[] texts = {"cost 1", "fee c", "fine (w)", "cost 1+2*w-!y", "fee 1234", "fine !!r|0"};
        int[] leaves = {1, 1, 1, 4, 1, 2};
        for (int i = 0; i < texts.length; i++) {
            due(30, "its number", text(x, texts[i]), i);
            due(31, "KEY of '" + texts[i] + "'", x.textTold(i, 0), i % 3);
            due(31, "NUMBERS and NAMES of '" + texts[i] + "'", x.textTold(i, 1), leaves[i]);
            due(32, "it counts", x.why(i % 3), i);
            if (i < 2) due(32, "there is none", x.why(2), NONE);
        }
        StringBuilder most = new StringBuilder("fee 1");
        while (most.length() < 95) most.append("+c");
        text(x, most + " ");
        due(31, "as many as there is room for", x.textTold(6, 1), 46);
    }

    // ---- promises 34 to 41

    private static int itemOf(StonesToCome x, int sheet, int place) {
        x.lay(4, 2, sheet);
        return x.item(4, place);
    }

    private static void mark() {
        for (int size : new int[] {1, 2, 24}) {
            for (int sort = 0; sort < 2; sort++) {
                StonesToCome x = new StonesToCome();
                x.sheet(0, sort, size);
                due(34, "the first place", x.mark(0, 0, 5), 1);
                due(34, "the last place", x.mark(0, size - 1, 6), 1);
                due(34, "the first place", itemOf(x, 0, 0), size == 1 ? 6 : 5);
                due(34, "the last place", itemOf(x, 0, size - 1), 6);
                due(34, "behind the last place", x.mark(0, size, 7), INDEX);
                due(34, "ahead of the first place", x.mark(0, -1, 7), INDEX);
            }
        }
    }

    private static void pour() {
        int[] marks = {-99999, -1, 0, 1, 8, 9, 10, 99999, NONE};
        int[] ranks = {0, 0, 0, 1, 8, 9, 9, 9, 4};
        for (int i = 0; i < marks.length; i++) {
            StonesToCome x = new StonesToCome();
            for (int one = 0; one < 6; one++) x.sends(one, 1, 4);
            x.sheet(0, 1, 6);
            for (int one = 0; one < 6; one++) x.mark(0, one, marks[i]);
            due(35, "how many are otherwise, by " + marks[i], x.pour(0), marks[i] == NONE ? 0 : 6);
            for (int one = 0; one < 6; one++) due(35, "held within 0 .. 9: " + marks[i], x.person(one, 1), ranks[i]);
            due(35, "none is otherwise", x.pour(0), 0);
        }
        for (int size = 0; size <= 8; size++) {
            StonesToCome x = new StonesToCome();
            x.sheet(3, 0, size);
            for (int k = 0; k < size; k++) x.mark(3, k, 7);
            due(35, "of " + size + " places", x.pour(3), Math.min(6, size));
            for (int one = 0; one < 6; one++) due(35, "beyond the SHEET it stays", x.person(one, 1), one < size ? 7 : 0);
            due(35, "RANKS, together", x.city(5), 7 * Math.min(6, size));
        }
        StonesToCome x = new StonesToCome();
        x.sheet(0, 0, 6);
        x.mark(0, 3, 32768);
        x.mark(0, 5, 32767);
        due(35, "shorts: only the last is otherwise", x.pour(0), 1);
        due(35, "a short below 0", x.person(3, 1), 0);
        due(35, "a short above 9", x.person(5, 1), 9);
    }

    private static void reads() {
        for (int size = 0; size <= 24; size++) {
            StonesToCome x = new StonesToCome();
            x.sheet(0, size % 2, size);
            due(36, "all at 0, " + size + " places", x.reads(0), size <= 6 ? NONE : 6);
        }
        for (int one = 0; one < 6; one++) {
            StonesToCome x = new StonesToCome();
            for (int i = 0; i < 6; i++) x.sends(i, 0, i % 4);
            x.sheet(0, 1, 24);
            for (int i = 0; i < 24; i++) x.mark(0, i, i < 6 ? i % 4 : NONE);
            due(36, "there is none", x.reads(0), NONE);
            x.mark(0, 23, 0);
            due(36, "of places that are none of them all numbers are not", x.reads(0), 23);
            x.mark(0, one, (one + 1) % 4);
            due(36, "the first place", x.reads(0), one);
            x.mark(0, one, NONE);
            due(36, "of numbers alone", x.reads(0), 23);
            x.mark(0, one, 4);
            due(36, "no SQUARE", x.reads(0), one);
            x.mark(0, one, one % 4 - 4);
            due(36, "no SQUARE", x.reads(0), one);
        }
    }

    private static void copy() {
        for (int sort = 0; sort < 2; sort++) {
            StonesToCome x = new StonesToCome();
            x.sheet(0, sort, 24);
            x.sheet(1, sort, 24);
            x.sheet(2, sort, 0);
            for (int k = 0; k < 24; k++) x.mark(0, k, k + 1);
            due(37, "all places", x.copy(0, 0, 1, 0, 24), 24);
            for (int k = 0; k < 24; k++) due(37, "all places", itemOf(x, 1, k), k + 1);
            due(37, "the last one to the first place", x.copy(0, 23, 1, 0, 1), 1);
            due(37, "the last one to the first place", itemOf(x, 1, 0), 24);
            due(37, "the first one to the last place", x.copy(0, 0, 1, 23, 1), 1);
            due(37, "the first one to the last place", itemOf(x, 1, 23), 1);
            due(37, "not one more", itemOf(x, 1, 22), 23);
            due(37, "none, behind the last places", x.copy(0, 24, 1, 24, 0), 0);
            due(37, "none, from and to a row of none", x.copy(2, 0, 2, 0, 0), 0);
            due(37, "none, to a row of none", x.copy(0, 24, 2, 0, 0), 0);
            due(37, "all to itself", x.copy(0, 0, 0, 0, 24), 24);
            due(37, "upwards, as they were", x.copy(0, 0, 0, 1, 23), 23);
            for (int k = 0; k < 24; k++) due(37, "upwards, as they were", itemOf(x, 0, k), Math.max(1, k));
            due(37, "downwards, as they were", x.copy(0, 1, 0, 0, 23), 23);
            for (int k = 0; k < 24; k++) due(37, "downwards, as they were", itemOf(x, 0, k), Math.min(23, k + 1));
        }
        StonesToCome x = new StonesToCome();
        x.sheet(0, 1, 2);
        x.sheet(1, 1, 2);
        x.mark(0, 0, NONE);
        x.mark(1, 1, 5);
        due(37, "NO NUMBER, too", x.copy(0, 0, 1, 1, 1), 1);
        due(37, "NO NUMBER, too", itemOf(x, 1, 1), KIND);
        due(37, "the other SHEET's own place", itemOf(x, 1, 0), 0);
    }

    private static void rest() {
        int[] numbers = {0, 1, -1, 7, -7, MAX, MIN};
        int[] by = {1, -1, 2, -2, 10, MAX, MIN};
        for (int number : numbers) {
            StonesToCome x = new StonesToCome();
            x.lay(0, 3, number);
            for (int n : by) {
                long whole = (long) number / n;
                due(41, number + " by " + n, x.rest(0, n), (int) (number - whole * n));
            }
        }
    }

    // ---- promises 42 to 46

    private static void tellAndCheck() {
        StonesToCome x = new StonesToCome();
        x.deal(10);
        x.keep();
        int[] rows = new int[60];
        for (int i = 0; i < 30; i++) {
            x.years(1);
            rows[2 * i] = x.city(0);
            rows[2 * i + 1] = x.city(5);
        }
        for (int n : new int[] {1, 2, 29, 30}) {
            for (int many : new int[] {0, 1, 2 * n - 1, 2 * n, 2 * n + 1}) {
                if (many > 60) continue;
                for (int i = 0; i < many; i++) x.tell(rows[i]);
                int want = many == 2 * n ? 0 : 1 + Math.min(many, 2 * n);
                due(43, many + " numbers for " + n + " YEARS", x.check(n), want);
                due(43, "none do then", x.count(5), 0);
            }
        }
        StonesToCome y = new StonesToCome();
        for (int i = 1; i <= 60; i++) due(42, "one more waits", y.tell(i % 2 == 0 ? MIN : MAX), i);
        due(42, "60 wait", y.tell(0), FULL);
        y.keep();
        due(43, "the first is not", y.check(30), 1);
        due(42, "one waits", y.tell(0), 1);
        due(45, "numbers that wait are in no IMAGE", y.back() + y.count(5), 1);
    }

    private static void keepAndBack() {
        for (int many : new int[] {0, 1, 10}) {
            StonesToCome x = new StonesToCome();
            if (many > 0) x.deal(many);
            due(44, "how many STONES", x.keep(), many);
            x.deal(5);
            x.years(9);
            due(45, "how many STONES", x.back(), many);
            due(45, "how many STONES", x.count(0), many);
            due(45, "THE YEAR", x.count(1), 0);
        }
        StonesToCome x = new StonesToCome();
        for (int i = 0; i < 14; i++) text(x, "fee " + i);
        x.keep();
        due(45, "back()", x.back(), 0);
        due(30, "full as it was", text(x, "fee 99"), FULL);
        due(26, "fee()", x.fee(), 13);
        StonesToCome y = new StonesToCome();
        y.keep();
        for (int i = 0; i < 14; i++) text(y, "fee " + i);
        y.back();
        due(46, "no TEXTS as it was", y.count(4), 0);
        due(32, "no TEXTS as it was", y.why(1), NONE);
        due(31, "no TEXTS as it was", y.textTold(0, 0), BAD);
        due(30, "from 0 on", text(y, "fee 50"), 0);
        due(26, "fee()", y.fee(), 50);
        y.sheet(0, 0, 3);
        y.lay(0, 3, 8);
        y.tell(1);
        y.feed(1, 2, 3);
        y.keep();
        y.sheet(0, 1, 4);
        y.lay(0, 3, 9);
        y.tell(2);
        y.feed(1, 2, 3);
        y.back();
        due(45, "SHEETS stay", itemOf(y, 0, 3), 0);
        due(45, "SLOTS stay", y.rest(0, 100), 9);
        due(45, "numbers that wait stay", y.count(5), 2);
        due(45, "THE TAPE stays", y.count(6), 24);
    }

    /** What THE IMAGE does not have is gone, and leaves nothing to those that come in its place. */
    private static void goneForGood() {
        for (int kept : new int[] {0, 1, 9}) {
            StonesToCome x = still();
            for (int i = 0; i < kept; i++) x.stone(STONE, 0, 1, 0, 9);
            x.keep();
            for (int i = kept; i < 10; i++) x.stone(BENCH, 0, 0, 0, 9);
            due(14, "all others come true", x.years(1), 10 - kept);
            due(45, "how many STONES", x.back(), kept);
            due(15, "none is FULFILLED", x.city(2), 0);
            due(15, "OPEN are those of THE IMAGE", x.city(3), (1 << kept) - 1);
            due(15, "none HOLDS", x.city(4), 0);
            due(18, "none is FULFILLED in thoughts", x.behind(0, 0), 0);
            due(3, "it is gone", x.told(kept, 5), BAD);
            due(2, "its number is free", x.stone(COLUMN, 1, 2, 9, 8), kept);
            int[] told = {COLUMN, 1, 2, 9, 8, NONE};
            for (int what = 0; what < 6; what++) due(3, "told(" + kept + ", " + what + ")", x.told(kept, what), told[what]);
            x.back();
            due(12, "their numbers are free", x.deal(10), 10 - kept);
            for (int i = kept; i < 10; i++) due(3, "drawn: DONE none at first", x.told(i, 5), NONE);
        }
    }

    private static void count() {
        StonesToCome x = still();
        goToYear(x, 9999);
        x.deal(10);
        for (int i = 0; i < 14; i++) text(x, "fee 1");
        for (int i = 0; i < 60; i++) x.tell(0);
        for (int i = 0; i < 8; i++) x.feed(0, 0, 0);
        x.seed(MIN);
        int[] counts = {10, 9999, 0, 0, 14, 60, 96, MIN};
        for (int i = 0; i < 8; i++) due(46, "count(" + i + ")", x.count(i), counts[i]);
        x.rule(0, 100);
        x.rule(1, 100);
        due(46, "count(2)", x.count(2), 100);
        due(46, "count(3)", x.count(3), 100);
        due(13, "z becomes any number", x.seed(MAX), MIN);
        due(13, "z becomes any number", x.seed(0), MAX);
        due(46, "count(7)", x.count(7), 0);
    }
}
