/** For each promise of the document: ordinary inputs, the edges that it names, and wrong inputs; answers worked out by hand. */
public final class PromiseTests extends Checks {
    public static void main(String[] args) {
        newObject();
        stonesAndPeople();
        years();
        thoughts();
        texts();
        sheetsAndSlots();
        rowsAndImages();
        end();
    }

    // ---- promise 1

    private static void newObject() {
        StonesToCome x = new StonesToCome();
        int[] counts = {0, 0, 60, 40, 0, 0, 0, 1};
        for (int i = 0; i < counts.length; i++) due(1, "count(" + i + ")", x.count(i), counts[i]);
        for (int i = 0; i < 6; i++) {
            due(1, "person(" + i + ", 0)", x.person(i, 0), 0);
            due(1, "person(" + i + ", 1)", x.person(i, 1), 0);
            due(1, "city(" + i + ")", x.city(i), 0);
        }
        for (int i = 0; i < 3; i++) due(1, "why(" + i + ")", x.why(i), NONE);
        for (int i = 0; i < 4; i++) due(1, "reads(" + i + ")", x.reads(i), NOTHING);
        for (int i = 0; i < 5; i++) due(1, "rest(" + i + ", 1)", x.rest(i, 1), NOTHING);
        due(1, "back()", x.back(), NO);
    }

    // ---- promises 2 to 13

    private static void stonesAndPeople() {
        stone();
        told();
        as();
        turnsSetUndone();
        people();
        rules();
        deal();
    }

    private static void stone() {
        StonesToCome x = new StonesToCome();
        all(2, "stone", BAD, x.stone(-1, 0, 0, 0, 0), x.stone(6, 0, 0, 0, 0), x.stone(0, -1, 0, 0, 0), x.stone(0, 6, 0, 0, 0),
            x.stone(0, 0, -1, 0, 0), x.stone(0, 0, 4, 0, 0), x.stone(0, 0, 0, -1, 0), x.stone(0, 0, 0, 10, 0),
            x.stone(0, 0, 0, 0, -1), x.stone(0, 0, 0, 0, 10000), x.stone(MIN, MAX, MIN, MAX, MIN));
        due(2, "count(0)", x.count(0), 0);
        due(2, "stone(5, 5, 3, 9, 9999)", x.stone(5, 5, 3, 9, 9999), 0);
        for (int i = 1; i < 10; i++) due(2, "stone " + i, x.stone(i % 6, i % 6, i % 4, i, i), i);
        due(2, "the eleventh", x.stone(0, 0, 0, 0, 0), FULL);
        due(2, "BAD ahead of FULL", x.stone(0, 0, 0, 0, 10000), BAD);
        due(2, "count(0)", x.count(0), 10);
    }

    private static void told() {
        StonesToCome x = new StonesToCome();
        x.stone(4, 5, 3, 9, 9999);
        int[] fields = {4, 5, 3, 9, 9999, NONE, 0, 5, -4};
        for (int i = 0; i < fields.length; i++) due(3, "told(0, " + i + ")", x.told(0, i), fields[i]);
        all(3, "told", BAD, x.told(-1, 0), x.told(1, 0), x.told(10, 0), x.told(MAX, 0), x.told(0, -1), x.told(0, 9));
        keepsAndWorth();
        holds();
    }

    private static void keepsAndWorth() {
        StonesToCome x = new StonesToCome();
        for (int kind = 0; kind < 6; kind++) x.stone(kind, 0, 0, 7, 20);
        int[] without = {1, 0, 2, 1, 5, 0};
        int[] odd = {13, 6, 26, 7, 29, 0};
        int[] above = {99, 49, 198, 50, 201, 0};
        int[] below = {0, 0, 0, 1, 3, 0};
        int[] worth = {7, 12, 2, 24, -2, 8};
        for (int k = 0; k < 6; k++) due(3, "told(" + k + ", 7) without a TEXT", x.told(k, 7), without[k]);
        text(x, "cost w+6");
        for (int k = 0; k < 6; k++) due(3, "told(" + k + ", 7) of w+6", x.told(k, 7), odd[k]);
        text(x, "cost 100");
        for (int k = 0; k < 6; k++) due(3, "told(" + k + ", 7) of 100", x.told(k, 7), above[k]);
        text(x, "cost 0-1");
        for (int k = 0; k < 6; k++) due(3, "told(" + k + ", 7) of -1", x.told(k, 7), below[k]);
        for (int k = 0; k < 6; k++) due(3, "told(" + k + ", 8)", x.told(k, 8), worth[k]);
    }

    private static void holds() {
        StonesToCome x = new StonesToCome();
        for (int kind = 0; kind < 6; kind++) x.stone(kind, 1, 2, 5, 20);
        due(3, "nobody there", x.city(4), 0b100000);
        x.sends(1, 0, 2);
        due(3, "alone, of rank 0", x.city(4), 0b000010);
        x.sends(1, 1, 4);
        due(3, "alone, of rank 4", x.city(4), 0b000010);
        x.sends(1, 1, 5);
        due(3, "alone, of rank 5", x.city(4), 0b010111);
        x.sends(0, 0, 2);
        due(3, "with somebody else", x.city(4), 0b011111);
        x.sends(1, 0, 3);
        due(3, "somebody else there", x.city(4), 0b000100);
        x.sends(0, 1, 9);
        due(3, "somebody else of rank 9 there", x.city(4), 0b010100);
        due(3, "told(4, 6)", x.told(4, 6), 1);
        due(3, "told(0, 6)", x.told(0, 6), 0);
    }

    private static void as() {
        int[] sets = {0b000001, 0b000011, 0b000101, 0b001011, 0b010101, 0b100001};
        StonesToCome x = new StonesToCome();
        for (int kind = 0; kind < 6; kind++) {
            x.stone(kind, 0, 0, 3 + kind, 0);
            for (int as = 0; as < 6; as++) {
                due(4, "as(" + kind + ", " + as + ")", x.as(kind, as), (sets[kind] >> as & 1) != 0 ? 3 + kind : KIND);
            }
        }
        all(4, "as", BAD, x.as(-1, 0), x.as(6, 0), x.as(0, -1), x.as(0, 6), x.as(MAX, MAX));
    }

    private static void turnsSetUndone() {
        StonesToCome x = still();
        x.stone(1, 1, 2, 3, 4);
        due(5, "turns(0, 5)", x.turns(0, 5), 1);
        due(5, "turns(0, 5) again", x.turns(0, 5), 5);
        due(5, "told(0, 0)", x.told(0, 0), 5);
        all(5, "turns", BAD, x.turns(-1, 0), x.turns(1, 0), x.turns(0, -1), x.turns(0, 6));
        due(5, "told(0, 0) behind refusals", x.told(0, 0), 5);
        int[] greatest = {0, 5, 3, 9, 9999};
        for (int what = 1; what <= 4; what++) {
            due(6, "set(0, " + what + ") to the greatest", x.set(0, what, greatest[what]), what);
            due(6, "told(0, " + what + ")", x.told(0, what), greatest[what]);
            all(6, "set " + what, BAD, x.set(0, what, greatest[what] + 1), x.set(0, what, -1), x.set(1, what, 0), x.set(-1, what, 0));
            due(6, "set(0, " + what + ", 0)", x.set(0, what, 0), greatest[what]);
        }
        all(6, "set", BAD, x.set(0, 0, 0), x.set(0, 5, 0), x.set(0, MIN, 0));
        due(7, "undone(0)", x.undone(0), NO);
        x.turns(0, 1);
        due(7, "years(1)", x.years(1), 1);
        due(7, "told(0, 5)", x.told(0, 5), 0);
        x.turns(0, 4);
        x.set(0, 4, 77);
        due(5, "told(0, 5) behind turns, set", x.told(0, 5), 0);
        due(7, "undone(0) now", x.undone(0), 1);
        due(7, "undone(0) again", x.undone(0), NO);
        due(7, "told(0, 5)", x.told(0, 5), NONE);
        all(7, "undone", BAD, x.undone(-1), x.undone(1));
    }

    private static void people() {
        StonesToCome x = new StonesToCome();
        due(9, "sends(5, 0, 3)", x.sends(5, 0, 3), 0);
        due(9, "sends(5, 0, 1)", x.sends(5, 0, 1), 3);
        due(9, "sends(5, 1, 9)", x.sends(5, 1, 9), 0);
        due(9, "sends(5, 1, 4)", x.sends(5, 1, 4), 9);
        due(9, "sends(0, 0, 3)", x.sends(0, 0, 3), 0);
        due(8, "person(5, 0)", x.person(5, 0), 1);
        due(8, "person(5, 1)", x.person(5, 1), 4);
        due(8, "person(0, 0)", x.person(0, 0), 3);
        due(8, "person(0, 1)", x.person(0, 1), 0);
        all(8, "person", BAD, x.person(-1, 0), x.person(6, 0), x.person(0, -1), x.person(0, 2), x.person(6, 5));
        all(9, "sends", BAD, x.sends(-1, 0, 0), x.sends(6, 0, 0), x.sends(0, -1, 0), x.sends(0, 2, 0), x.sends(0, 0, 4),
            x.sends(0, 0, -1), x.sends(0, 1, 10), x.sends(0, 1, -1));
        due(9, "person(0, 0) behind refusals", x.person(0, 0), 3);
        due(10, "at(0)", x.at(0), 0b011110);
        due(10, "at(1)", x.at(1), 0b100000);
        due(10, "at(2)", x.at(2), 0);
        due(10, "at(3)", x.at(3), 0b000001);
        all(10, "at", BAD, x.at(-1), x.at(4));
    }

    private static void rules() {
        StonesToCome x = new StonesToCome();
        due(11, "rule(0, 100)", x.rule(0, 100), 60);
        due(11, "rule(0, 0)", x.rule(0, 0), 100);
        due(11, "rule(1, 100)", x.rule(1, 100), 40);
        due(11, "rule(1, 1)", x.rule(1, 1), 100);
        all(11, "rule", BAD, x.rule(0, -1), x.rule(0, 101), x.rule(1, -1), x.rule(1, 101), x.rule(2, 0), x.rule(-1, 0));
        due(11, "count(2)", x.count(2), 0);
        due(11, "count(3)", x.count(3), 1);
        due(13, "seed(MIN)", x.seed(MIN), 1);
        due(13, "seed(-7)", x.seed(-7), MIN);
        due(13, "count(7)", x.count(7), -7);
    }

    private static void deal() {
        StonesToCome x = new StonesToCome();
        all(12, "deal", BAD, x.deal(0), x.deal(-1), x.deal(11), x.deal(MAX));
        due(12, "count(7)", x.count(7), 1);
        Lot lot = new Lot(1);
        due(12, "deal(3)", x.deal(3), 3);
        for (int i = 0; i < 3; i++) {
            int[] fields = {lot.rest(6), lot.rest(6), lot.rest(4), lot.rest(10), lot.rest(60), NONE};
            for (int k = 0; k < 6; k++) due(12, "told(" + i + ", " + k + ")", x.told(i, k), fields[k]);
        }
        due(12, "count(7) behind it", x.count(7), lot.z);
        due(12, "deal(10): room for 7", x.deal(10), 7);
        for (int i = 0; i < 35; i++) lot.rest(2);
        due(12, "count(7): no draws for others", x.count(7), lot.z);
        due(12, "deal(1): no room", x.deal(1), 0);
        due(12, "count(7): no draws", x.count(7), lot.z);
        StonesToCome late = still();
        goToYear(late, 9999);
        due(12, "count(1)", late.count(1), 9999);
        due(12, "deal(10) in the last year", late.deal(10), 10);
        for (int i = 0; i < 10; i++) due(12, "told(" + i + ", 4)", late.told(i, 4), 9999);
        StonesToCome later = still();
        later.years(7);
        later.seed(1);
        later.deal(1);
        Lot again = new Lot(1);
        for (int i = 0; i < 4; i++) again.rest(2);
        due(12, "told(0, 4) from THE YEAR on", later.told(0, 4), 7 + again.rest(60));
    }

    // ---- promises 14 to 17

    private static void years() {
        lots();
        yearByYear();
        lastYear();
        together();
        clash();
    }

    /** 200 YEARS, PEOPLE followed by the document's words; a new object for each, as one serves for 512 calls. */
    private static void lots() {
        Lot lot = new Lot(1);
        int[] at = new int[6];
        int[] rank = new int[6];
        boolean wrapped = false;
        for (int year = 0; year < 200; year++) {
            StonesToCome x = new StonesToCome();
            x.rule(1, 100);
            x.rule(0, 70);
            goToYear(x, year);
            due(14, "years(1)", x.years(1), 0);
            if (lot.rest(100) < 70) {
                int one = lot.rest(6);
                at[one] = lot.rest(4);
            }
            if (lot.rest(100) < 100) {
                int one = lot.rest(6);
                wrapped |= rank[one] == 9;
                rank[one] = rank[one] == 9 ? 0 : rank[one] + 1;
            }
            for (int one = 0; one < 6; one++) {
                due(14, "AT of " + one + " behind year " + year, x.person(one, 0), at[one]);
                due(14, "RANK of " + one + " behind year " + year, x.person(one, 1), rank[one]);
            }
            due(14, "count(7)", x.count(7), lot.z);
        }
        due(14, "a RANK went from 9 to 0", wrapped ? 1 : 0, 1);
        StonesToCome none = still();
        none.years(100);
        Lot two = new Lot(1);
        for (int i = 0; i < 200; i++) two.rest(100);
        due(14, "two draws a YEAR", none.count(7), two.z);
        for (int one = 0; one < 6; one++) due(14, "nobody moves", none.person(one, 0) + none.person(one, 1), 0);
    }

    private static void yearByYear() {
        StonesToCome x = still();
        all(14, "years", BAD, x.years(0), x.years(-1), x.years(101));
        due(14, "count(1)", x.count(1), 0);
        x.stone(1, 0, 0, 0, 0);
        x.stone(1, 0, 1, 0, 2);
        x.stone(2, 0, 0, 1, 1);
        x.stone(5, 0, 3, 0, 9);
        due(15, "city(3)", x.city(3), 0b1111);
        due(14, "years(1)", x.years(1), 2);
        due(15, "COST: BENCH 0, COLUMN 2", x.city(0), 2);
        due(15, "MISSED", x.city(1), 0);
        due(15, "FULFILLED", x.city(2), 0b1001);
        due(15, "OPEN", x.city(3), 0b0110);
        due(15, "HOLD now", x.city(4), 0b1001);
        due(14, "years(1)", x.years(1), 0);
        due(15, "COST", x.city(0), 4);
        due(15, "MISSED: number 2, in its last year", x.city(1), 1);
        due(15, "OPEN: WHEN is THE YEAR", x.city(3), 0b0010);
        x.sends(0, 0, 1);
        x.sends(0, 1, 9);
        due(15, "HOLD, FULFILLED or past", x.city(4), 0b1110);
        due(14, "in its last year, past the other's", x.years(1), 1);
        due(14, "told(1, 5)", x.told(1, 5), 2);
        due(14, "told(2, 5)", x.told(2, 5), NONE);
        due(15, "COST: what is past goes on costing", x.city(0), 6);
        due(15, "MISSED once", x.city(1), 1);
        due(15, "RANKS together", x.city(5), 9);
        x.sends(5, 1, 8);
        due(15, "RANKS together", x.city(5), 17);
        all(15, "city", BAD, x.city(-1), x.city(6));
        StonesToCome y = still();
        y.stone(0, 0, 0, 9, 50);
        text(y, "cost w*10+y-l");
        y.years(2);
        // 90 + 0 - 50, and 90 + 1 - 49
        due(15, "COST by a TEXT", y.city(0), 40 + 42);
    }

    private static void lastYear() {
        StonesToCome x = still();
        for (int i = 0; i < 99; i++) x.years(100);
        x.years(50);
        x.stone(1, 0, 1, 0, 9998);
        x.stone(1, 0, 1, 0, 9999);
        x.stone(0, 0, 1, 0, 9999);
        due(14, "years(100): only up to 9999", x.years(100), 0);
        due(14, "count(1)", x.count(1), 9999);
        due(14, "COST of 49 YEARS", x.city(0), 49);
        due(14, "MISSED", x.city(1), 1);
        int z = x.count(7);
        x.sends(0, 0, 1);
        due(14, "years(1) at the end", x.years(1), 0);
        due(14, "count(7): no draws", x.count(7), z);
        due(14, "count(1)", x.count(1), 9999);
        due(18, "behind(1, 0): without the bound", x.behind(1, 0), 2);
        due(18, "behind(100, 2)", x.behind(100, 2), 49);
        due(19, "fulfils(1)", x.fulfils(1), 1);
        due(19, "fulfils(0)", x.fulfils(0), NONE);
        due(24, "latest(0)", x.latest(0), 9999);
        x.turns(2, 2);
        x.set(2, 3, 9);
        due(18, "behind(100, 2)", x.behind(100, 2), 49 + 200);
        due(18, "behind(100, 1)", x.behind(100, 1), 2);
    }

    private static void together() {
        StonesToCome x = still();
        due(16, "together(-1) of none", x.together(-1), 0);
        for (int one = 0; one < 6; one++) due(16, "together(" + one + ") of none", x.together(one), 0);
        all(16, "together", BAD, x.together(-2), x.together(6));
        // 0 at 1, 5 at 3 with somebody, nobody at 0: all the others keep away from 0.
        x.stone(1, 0, 1, 0, 9);
        x.stone(3, 5, 3, 0, 9);
        x.stone(5, 0, 0, 0, 9);
        due(16, "together(-1)", x.together(-1), 3);
        int[] squares = {1, 1, 1, 1, 3, 3};
        for (int one = 0; one < 6; one++) due(16, "together(" + one + ")", x.together(one), squares[one]);
        due(16, "nothing changed", x.at(0), 63);
        // RANKS as they are: nobody has 1.
        x.stone(4, 0, 2, 1, 9);
        due(16, "together(-1)", x.together(-1), 3);
        x.sends(2, 1, 1);
        due(16, "together(-1)", x.together(-1), 4);
        due(16, "together(2)", x.together(2), 2);
        // What is FULFILLED or past does not count.
        x.stone(0, 4, 0, 0, 0);
        x.stone(2, 4, 0, 0, 0);
        x.stone(2, 5, 0, 1, 0);
        due(16, "together(-1): 2 against CANVAS", x.together(-1), 5);
        x.years(1);
        due(16, "together(-1) of OPEN ones", x.together(-1), 4);
        // Not all can HOLD: of several SQUARES the first ones, by those of 0, of 1, ..
        StonesToCome y = still();
        y.stone(1, 1, 2, 0, 9);
        y.stone(1, 1, 3, 0, 9);
        y.stone(1, 4, 1, 0, 9);
        due(16, "together(-1)", y.together(-1), 2);
        int[] first = {0, 2, 0, 0, 1, 0};
        for (int one = 0; one < 6; one++) due(16, "together(" + one + "), the first", y.together(one), first[one]);
    }

    private static void clash() {
        StonesToCome x = still();
        x.stone(1, 0, 1, 0, 0);
        x.stone(1, 0, 2, 0, 0);
        x.stone(5, 0, 1, 0, 0);
        x.stone(2, 3, 1, 1, 0);
        x.stone(5, 0, 2, 0, 0);
        x.stone(3, 4, 0, 0, 0);
        due(17, "one at two SQUARES", x.clash(0, 1), 1);
        due(17, "one there and nobody", x.clash(2, 0), 1);
        due(17, "nobody at two SQUARES", x.clash(2, 4), 0);
        due(17, "too low a RANK", x.clash(3, 4), 1);
        due(17, "plaque elsewhere", x.clash(5, 0), 0);
        x.sends(3, 1, 1);
        due(17, "a RANK that is enough", x.clash(3, 4), 0);
        x.years(3);
        due(17, "FULFILLED or past", x.clash(0, 1), 1);
        due(17, "FULFILLED or past", x.clash(1, 2), 0);
        all(17, "clash", BAD, x.clash(0, 0), x.clash(-1, 0), x.clash(0, 6), x.clash(6, 7), x.clash(0, -1));
    }

    // ---- promises 18 to 27

    private static void thoughts() {
        behind();
        fulfilsAndLatest();
        choices();
        scrapAndBecomes();
        whose();
        feeAndFine();
    }

    private static void behind() {
        StonesToCome x = new StonesToCome();
        x.seed(99);
        x.deal(10);
        text(x, "cost w*3+l/7-y");
        x.years(3);
        int z = x.count(7);
        int cost = x.city(0);
        for (int n = 0; n <= 100; n += 25) {
            StonesToCome y = new StonesToCome();
            y.seed(99);
            y.deal(10);
            text(y, "cost w*3+l/7-y");
            y.years(3);
            if (n > 0) y.years(n);
            due(18, "behind(" + n + ", 0)", x.behind(n, 0), Integer.bitCount(y.city(2)));
            due(18, "behind(" + n + ", 1)", x.behind(n, 1), y.city(1));
            due(18, "behind(" + n + ", 2)", x.behind(n, 2), y.city(0));
            for (int k = 0; k < 6; k++) due(18, "behind(" + n + ", 3 and " + k + ")", x.behind(n, 3 + k), y.person(k, 1));
        }
        due(18, "z is as it was", x.count(7), z);
        due(18, "COST is as it was", x.city(0), cost);
        due(18, "THE YEAR is as it was", x.count(1), 3);
        all(18, "behind", BAD, x.behind(-1, 0), x.behind(101, 0), x.behind(1, -1), x.behind(1, 9), x.behind(MIN, MIN));
    }

    private static void fulfilsAndLatest() {
        StonesToCome x = new StonesToCome();
        x.stone(1, 3, 0, 0, 500);
        x.stone(1, 3, 2, 0, 500);
        x.stone(2, 2, 0, 3, 500);
        x.stone(0, 1, 3, 1, 500);
        for (int i = 0; i < 4; i++) {
            int comes = x.fulfils(i);
            StonesToCome y = new StonesToCome();
            y.stone(x.told(i, 0), x.told(i, 1), x.told(i, 2), x.told(i, 3), 500);
            int k = 0;
            while (y.told(0, 5) == NONE && k < 201) {
                y.years(1);
                k++;
            }
            due(19, "fulfils(" + i + ")", comes, k > 200 ? NONE : k);
            due(24, "latest(" + i + ")", x.latest(i), k > 61 ? NONE : k - 1);
            x.set(i, 4, k - 1);
            due(19, "fulfils(" + i + ") just by then", x.fulfils(i), comes);
            if (k > 1) {
                x.set(i, 4, k - 2);
                due(19, "fulfils(" + i + ") too late", x.fulfils(i), NONE);
                due(24, "latest(" + i + "), whatever WHEN is", x.latest(i), k > 61 ? NONE : k - 1);
            }
        }
        all(19, "fulfils", BAD, x.fulfils(-1), x.fulfils(4));
        all(24, "latest", BAD, x.latest(-1), x.latest(4));
        edgesOfComes();
    }

    /** Only RANKS change: the year in which somebody has one is found by the draws. */
    private static void edgesOfComes() {
        StonesToCome s = still();
        s.stone(2, 0, 0, 9, 9999);
        due(19, "never", s.fulfils(0), NONE);
        due(24, "never", s.latest(0), NONE);
        s.sends(0, 1, 9);
        due(19, "in the year to come", s.fulfils(0), 1);
        due(24, "this year", s.latest(0), 0);
        s.years(1);
        due(19, "FULFILLED already", s.fulfils(0), 0);
        due(24, "FULFILLED already", s.latest(0), NO);
        boolean[] met = new boolean[301];
        for (int seed = 0; seed < 20000; seed++) {
            int first = firstRise(seed);
            if (!met[first] && (first == 60 || first == 61 || first == 199 || first == 200)) {
                met[first] = true;
                StonesToCome x = new StonesToCome();
                x.rule(0, 0);
                x.rule(1, 4);
                x.seed(seed);
                x.stone(2, 0, 0, 1, 9999);
                due(24, "latest of a rise in year " + first, x.latest(0), first <= 60 ? first : NONE);
                due(19, "fulfils of a rise in year " + first, x.fulfils(0), first <= 199 ? first + 1 : NONE);
            }
        }
        due(24, "the edges of LATEST were met", met[60] && met[61] ? 1 : 0, 1);
        due(19, "the edges of COMES were met", met[199] && met[200] ? 1 : 0, 1);
    }

    private static int firstRise(int seed) {
        Lot lot = new Lot(seed);
        for (int year = 0; year < 300; year++) {
            lot.rest(100);
            if (lot.rest(100) < 4 && lot.rest(6) == 0) return year;
        }
        return 300;
    }

    private static void choices() {
        StonesToCome x = still();
        due(20, "sent(1, 0) without STONES", x.sent(1, 0), 0);
        due(20, "sent(1, 1) without STONES", x.sent(1, 1), 0);
        due(20, "sent(1, 2) without STONES", x.sent(1, 2), 0);
        due(21, "raised(1, 0) without STONES", x.raised(1, 0), 0);
        due(21, "raised(1, 1) without STONES", x.raised(1, 1), 0);
        x.stone(1, 3, 2, 0, 9);
        x.stone(1, 3, 2, 0, 9);
        x.stone(1, 4, 3, 0, 9);
        x.stone(1, 5, 0, 0, 9);
        due(20, "sent(30, 0)", x.sent(30, 0), 3);
        due(20, "sent(30, 1)", x.sent(30, 1), 2);
        due(20, "sent(30, 2)", x.sent(30, 2), 3);
        due(20, "nothing changed", x.at(0), 63);
        x.stone(1, 4, 3, 0, 9);
        due(20, "of several the first one", x.sent(1, 0), 3);
        x.stone(2, 5, 0, 1, 9);
        x.stone(2, 2, 0, 1, 9);
        due(21, "raised(60, 0): of several the least", x.raised(60, 0), 2);
        due(21, "raised(60, 1)", x.raised(60, 1), 2);
        x.stone(4, 0, 0, 1, 9);
        x.stone(0, 5, 0, 1, 9);
        due(21, "raised(1, 0)", x.raised(1, 0), 5);
        due(21, "raised(1, 1)", x.raised(1, 1), 4);
        due(21, "nothing changed", x.city(5), 0);
        all(20, "sent", BAD, x.sent(0, 0), x.sent(31, 0), x.sent(1, -1), x.sent(1, 3));
        all(21, "raised", BAD, x.raised(0, 0), x.raised(61, 0), x.raised(1, -1), x.raised(1, 2));
        StonesToCome y = still();
        y.sends(0, 1, 9);
        y.stone(2, 0, 0, 9, 9);
        due(21, "9 at most", y.raised(1, 1), 1);
        due(21, "9 at most: of several the least", y.raised(1, 0), 0);
        StonesToCome two = still();
        two.stone(2, 3, 0, 2, 9);
        due(21, "1 more is not 2 more", two.raised(1, 1), 0);
        two.sends(3, 1, 1);
        due(21, "1 more", two.raised(1, 0), 3);
        StonesToCome v = still();
        v.stone(5, 0, 2, 0, 9);
        v.sends(1, 0, 2);
        due(20, "the first SQUARE of several", v.sent(1, 1), 0);
        due(20, "the one that has to leave", v.sent(1, 0), 1);
        v.sends(2, 0, 2);
        due(20, "two would have to leave", v.sent(1, 2), 0);
    }

    private static void scrapAndBecomes() {
        StonesToCome x = still();
        due(22, "scrap(1, 0) without STONES", x.scrap(1, 0), NONE);
        due(22, "scrap(60, 1) without STONES", x.scrap(60, 1), NONE);
        all(22, "scrap", BAD, x.scrap(0, 0), x.scrap(61, 0), x.scrap(1, -1), x.scrap(1, 2));
        x.stone(0, 0, 1, 0, 100);
        x.stone(4, 0, 1, 9, 100);
        x.stone(4, 1, 1, 9, 0);
        x.stone(1, 1, 0, 0, 100);
        x.years(2);
        due(22, "COST", x.city(0), 22);
        due(22, "scrap(60, 0): of several the least", x.scrap(60, 0), 1);
        due(22, "scrap(60, 1)", x.scrap(60, 1), 22 + 60 * 6);
        due(22, "nothing changed", x.city(0), 22);
        x.sends(0, 0, 1);
        x.sends(0, 1, 9);
        // Numbers 0 and 1 come true at once, number 2 is past.
        due(22, "scrap(3, 0)", x.scrap(3, 0), 2);
        due(22, "scrap(3, 1)", x.scrap(3, 1), 22);
        StonesToCome f = still();
        f.stone(5, 0, 1, 0, 9);
        due(22, "all cost nothing", f.scrap(9, 0), 0);
        due(22, "all cost nothing", f.scrap(9, 1), 0);

        StonesToCome y = still();
        y.stone(2, 0, 1, 1, 9);
        y.stone(1, 0, 0, 0, 9);
        due(23, "becomes(0, 1, 0): only CANVAS", y.becomes(0, 1, 0), 5);
        due(23, "becomes(0, 1, 1)", y.becomes(0, 1, 1), 2);
        y.sends(1, 0, 1);
        due(23, "nothing helps: the least", y.becomes(0, 60, 0), 0);
        due(23, "nothing helps", y.becomes(0, 60, 1), 1);
        y.sends(1, 1, 1);
        due(23, "BRONZE", y.becomes(0, 60, 0), 4);
        y.sends(0, 1, 1);
        due(23, "COLUMN ahead of BRONZE", y.becomes(0, 60, 0), 2);
        y.sends(0, 0, 1);
        y.sends(0, 1, 0);
        due(23, "BENCH ahead of PLAQUE", y.becomes(0, 60, 0), 1);
        due(23, "told(0, 0) is as it was", y.told(0, 0), 2);
        all(23, "becomes", BAD, y.becomes(-1, 1, 0), y.becomes(2, 1, 0), y.becomes(0, 0, 0), y.becomes(0, 61, 0),
            y.becomes(0, 1, -1), y.becomes(0, 1, 2));
    }

    private static void whose() {
        StonesToCome x = new StonesToCome();
        due(25, "whose(0, 0)", x.whose(0, 0), NOTHING);
        all(25, "whose", BAD, x.whose(-1, 0), x.whose(4, 0), x.whose(0, -1), x.whose(0, 2));
        x.sheet(0, 0, 0);
        due(25, "an empty SHEET", x.whose(0, 0), 0);
        due(25, "an empty SHEET", x.whose(0, 1), 0);
        x.rule(1, 100);
        for (int one = 0; one < 6; one++) {
            x.sends(one, 1, one);
        }
        x.sheet(0, 0, 24);
        for (int k = 0; k < 24; k++) x.mark(0, k, x.behind(k, 3 + 4));
        due(25, "RANKS of 4 behind 0 .. 23 YEARS", x.whose(0, 0), 4);
        due(25, "no difference", x.whose(0, 1), 0);
        x.mark(0, 0, 4 + 3);
        x.mark(0, 23, x.behind(23, 7) - 2);
        due(25, "signs left out", x.whose(0, 1), 5);
        x.sheet(1, 1, 3);
        x.mark(1, 0, NONE);
        x.mark(1, 1, 99999);
        x.mark(1, 2, NONE);
        int best = 0;
        for (int one = 1; one < 6; one++) best = x.behind(1, 3 + one) > x.behind(1, 3 + best) ? one : best;
        due(25, "numbers alone", x.whose(1, 0), best);
        due(25, "numbers alone", x.whose(1, 1), 99999 - x.behind(1, 3 + best));
        StonesToCome y = still();
        y.sends(2, 1, 4);
        y.sends(5, 1, 6);
        y.sheet(3, 0, 2);
        y.mark(3, 0, 5);
        y.mark(3, 1, 5);
        due(25, "of several the least", y.whose(3, 0), 2);
        due(25, "together", y.whose(3, 1), 2);
        y.sends(1, 1, 5);
        due(25, "number 1", y.whose(3, 0), 1);
        y.sends(0, 1, 5);
        due(25, "number 0", y.whose(3, 0), 0);
    }

    private static void feeAndFine() {
        StonesToCome x = still();
        x.stone(0, 3, 1, 9, 1);
        x.stone(2, 4, 1, 9, 70);
        x.sends(3, 1, 6);
        due(26, "fee() at first", x.fee(), 0);
        x.years(3);
        due(26, "fee() without a TEXT: COST", x.fee(), 9);
        due(27, "fine(0) without a TEXT: WHEN", x.fine(0), 1);
        due(27, "fine(1) without a TEXT: WHEN", x.fine(1), 70);
        text(x, "fee c*100+m");
        text(x, "fine w*100+r");
        due(26, "fee()", x.fee(), 901);
        due(27, "fine(0)", x.fine(0), 106);
        due(27, "fine(1)", x.fine(1), 7000);
        text(x, "fee 3-7");
        due(26, "the one that was told last counts", x.fee(), -4);
        all(27, "fine", BAD, x.fine(-1), x.fine(2));
    }

    // ---- promises 28 to 32

    private static void texts() {
        tape();
        faults();
        depths();
        values();
        tellingTexts();
    }

    private static void tape() {
        StonesToCome x = new StonesToCome();
        for (int i = 1; i <= 8; i++) due(28, "feed", x.feed(MIN, -1, i), 12 * i);
        due(28, "feed", x.feed(0, 0, 0), FULL);
        due(28, "count(6)", x.count(6), 96);
        due(29, "trim(85)", x.trim(85), 85);
        due(28, "feed: one too many", x.feed(0, 0, 0), FULL);
        all(29, "trim", BAD, x.trim(-1), x.trim(86), x.trim(MAX), x.trim(MIN));
        due(29, "trim(84)", x.trim(84), 84);
        due(28, "feed: up to 96", x.feed(0, 0, 0), 96);
        due(29, "trim(96)", x.trim(96), 96);
        due(30, "the first byte is 128", x.text(), -100);
        due(30, "it is used up", x.count(6), 0);
        due(29, "trim(0)", x.trim(0), 0);
        due(29, "trim(1)", x.trim(1), BAD);
        // "fee 12*3+4-5", the highest byte first
        due(28, "feed", x.feed(0x66656520, 0x31322a33, 0x2b342d35), 12);
        due(30, "text()", x.text(), 0);
        due(28, "fee()", x.fee(), 35);
        due(30, "it is used up", x.count(6), 0);
    }

    private static void faults() {
        String[] texts = {"", "   ", "cost", "cost ", "xyz 1", "  xyz 1", "costw 1", "cost1", "cost 1 2", "cost 1w", "cost w1",
            "cost 12345", "cost 1234", "cost 1+", "cost 1+ ", "cost (1", "cost (1 ", "cost 1)", "cost ()", "cost c", "fee w",
            "fee y", "fine y", "fine l", "fine c", "cost r", "cost m", "cost ww", "cost cost", "cost 1<2<3", "cost 1<2=3",
            "cost (1<2)<3", "cost 1<2&3<4", "cost 1<2|3>4&5=6", "cost 1<2+3<4", "cost -1", "cost 1--1", "cost !", "cost 1!",
            "cost 1!2", "cost |1", "Cost 1", "cost W", "cost\t1", "cost 1\t", "cost 1\0", "cost 1;", "cost (1))", "cost((1)",
            "cost(w)", "cost!w", " cost  ( w )  ", "cost w*", "cost *w", "cost w w", "cost w(1)", "cost (w)1", "cost (w)(w)",
            "cost 1<", "cost 1<>2", "cost 1==1", "cost 1&&1", "cost" + (char) 200, "cost 1" + (char) 255, "1", "(cost 1)",
            "costa 1", "costz 1", "zcost 1", "xost 1", "fe 1", "feee 1", "fin 1", "cos 1", "cost 1 +", "cost 0000", "cost 00000", "fee12", "fine 1 &"};
        int[] places = {0, 3, 4, 5, 0, 2, 0, 4, 7, 6, 6, 5, -1, 7, 8, 7, 8, 6, 6, 5, 4,
            4, 5, 5, 5, 5, 5, 5, 5, 8, 8,
            -1, -1, -1, 10, 5, 7, 6, 6,
            6, 5, 0, 5, 4, 6, 6, 6, 8, 8,
            -1, -1, -1, 7, 5, 7, 6, 8, 8,
            7, 7, 7, 7, 4, 6, 0, 0,
            0, 0, 0, 0, 0, 0, 0, 0, 8, -1, 5, 3, 8};
        due(30, "as many places as texts", places.length, texts.length);
        for (int i = 0; i < texts.length; i++) {
            due(30, "text of '" + texts[i] + "'", fault(texts[i]), places[i] < 0 ? 0 : -100 - places[i]);
        }
        StringBuilder full = new StringBuilder("fee 1");
        while (full.length() < 95) full.append("+1");
        due(30, "text of 95 bytes", fault(full.toString()), 0);
        due(30, "text of 96 bytes that ends too soon", fault(full + "+"), -196);
    }

    private static void depths() {
        String eight = "((((((((";
        String close = "))))))))";
        String nots = "!!!!!!!!";
        due(30, "eight (", fault("cost " + eight + "1" + close), 0);
        due(30, "nine (", fault("cost " + eight + "(1)" + close), -113);
        due(30, "eight ( twice", fault("cost " + eight + "1" + close + "+" + eight + "1" + close), 0);
        due(30, "eight (, and two within seven", fault("cost (((((((1)+(1)))))))"), 0);
        due(30, "eight !", fault("cost " + nots + "1"), 0);
        due(30, "nine !", fault("cost " + nots + "!1"), -113);
        due(30, "eight ! twice", fault("cost " + nots + "1+" + nots + "1"), 0);
        due(30, "eight ! and eight (, each by itself", fault("cost " + nots + eight + "1" + close), 0);
        due(30, "eight ! around, one more within (", fault("cost " + nots + "(!1)"), -114);
        due(30, "eight ! within (, one behind it", fault("cost !(" + nots.substring(1) + "1)+!1"), 0);
        due(30, "! ( by turns", fault("cost !(!(!(!(!(!(!(!(1" + close), 0);
        due(30, "! ( by turns, nine", fault("cost !(!(!(!(!(!(!(!(!(1)" + close), -121);
    }

    private static void values() {
        String[] texts = {"7", "0007", "9999", "2+3*4", "(2+3)*4", "9-4-3", "100/7/2", "100/(7/2)", "7/0", "0-7/2", "(0-7)/2",
            "2*3/4*5", "1|0", "0|0", "5|0", "5&3", "5&0", "1|1&0", "(1|1)&0", "3<4", "4<4", "5>4", "4>4", "4=4", "4=5",
            "1+2<4", "1<2+4", "!0", "!5", "!!5", "!0+1", "!(0+1)", "2*!0", "c", "m", "c+m+1", "2<3&3<2", "2<3|3<2", "0&1<2",
            "9999*9999*9999", "0-9999*9999*22", "5-(2-4)", "(((5)))", "1&2|0", "!3=0", "!(3=0)", "0-1<0", "(0-1)&1",
            "(0-9999)/(0-10)", "1/1*0|3/4"};
        int[] want = {7, 7, 9999, 14, 20, 2, 7, 33, 0, -3, -3,
            5, 1, 0, 1, 1, 0, 1, 0, 1, 0, 1, 0, 1, 0,
            1, 1, 1, 0, 1, 2, 0, 2, 0, 0, 1, 0, 1, 0,
            9999 * 9999 * 9999, -(9999 * 9999 * 22), 7, 5, 1, 1, 1, 1, 1,
            999, 0};
        for (int i = 0; i < texts.length; i++) due(26, "fee of '" + texts[i] + "'", gives(texts[i]), want[i]);
        // The least int by -1 wraps to itself.
        due(26, "the least int by -1", gives("(0-8192*8192*32)/(0-1)"), MIN);
        StonesToCome x = still();
        x.years(5);
        x.stone(0, 0, 1, 3, 12);
        x.stone(0, 0, 1, 3, 5);
        x.stone(0, 0, 1, 3, 2);
        text(x, "cost w");
        due(3, "w: WHAT", x.told(0, 7), 3);
        text(x, "cost y");
        due(3, "y: THE YEAR", x.told(0, 7), 5);
        text(x, "cost l");
        due(3, "l: the years up to WHEN", x.told(0, 7), 7);
        due(3, "l: WHEN is THE YEAR", x.told(1, 7), 0);
        text(x, "cost l+1");
        due(3, "l: it is past", x.told(2, 7), 1);
    }

    private static void tellingTexts() {
        StonesToCome x = new StonesToCome();
        String[] keys = {"cost w+y+l+1", "fee c", "fine !(w+r)*12"};
        int[] leaves = {4, 1, 3};
        for (int i = 0; i < 14; i++) due(30, "text " + i, text(x, keys[i % 3]), i);
        for (int i = 0; i < 14; i++) {
            due(31, "textTold(" + i + ", 0)", x.textTold(i, 0), i % 3);
            due(31, "textTold(" + i + ", 1)", x.textTold(i, 1), leaves[i % 3]);
        }
        due(32, "why(0)", x.why(0), 12);
        due(32, "why(1)", x.why(1), 13);
        due(32, "why(2)", x.why(2), 11);
        due(30, "the fifteenth", text(x, "fee 1"), FULL);
        due(30, "it is used up", x.count(6), 0);
        due(30, "FAULT ahead of FULL", text(x, "fee 1+"), -106);
        due(30, "count(4)", x.count(4), 14);
        due(32, "why(1) behind it", x.why(1), 13);
        due(31, "textTold(14, 0): FULL", x.textTold(14, 0), BAD);
        all(31, "textTold", BAD, x.textTold(-1, 0), x.textTold(14, 0), x.textTold(0, -1), x.textTold(0, 2));
        all(32, "why", BAD, x.why(-1), x.why(3));
        StonesToCome y = new StonesToCome();
        due(31, "textTold(0, 0) of none", y.textTold(0, 0), BAD);
        text(y, "fine 1");
        due(32, "why(0)", y.why(0), NONE);
        due(32, "why(2)", y.why(2), 0);
    }

    // ---- promises 33 to 41

    private static void sheetsAndSlots() {
        sheetAndMark();
        pourAndReads();
        copy();
        slots();
    }

    private static void sheetAndMark() {
        StonesToCome x = new StonesToCome();
        due(33, "sheet(0, 0, 24)", x.sheet(0, 0, 24), 24);
        due(33, "sheet(3, 1, 0)", x.sheet(3, 1, 0), 0);
        all(33, "sheet", BAD, x.sheet(-1, 0, 1), x.sheet(4, 0, 1), x.sheet(0, -2, 1), x.sheet(0, 2, 1), x.sheet(0, 0, 25),
            x.sheet(0, 1, MAX), x.sheet(4, 0, -1), x.sheet(0, 2, -1), x.sheet(4, -1, 0));
        all(33, "sheet", SIZE, x.sheet(0, 0, -1), x.sheet(0, 1, MIN));
        due(34, "mark(0, 23, 32767)", x.mark(0, 23, 32767), 1);
        due(33, "sheet(0, -1, 99): n any", x.sheet(0, -1, 99), 0);
        due(33, "MISSING now", x.reads(0), NOTHING);
        due(33, "sheet(0, -1, -5): n any", x.sheet(0, -1, -5), 0);
        x.sheet(0, 0, 24);
        x.lay(0, 2, 0);
        due(33, "all 0 again", x.item(0, 23), 0);
        int[] shorts = {32767, 32768, 65535, 65536, -1, -32769, MIN, MAX, 100000, BAD};
        for (int v : shorts) {
            due(34, "mark(0, 5, " + v + ")", x.mark(0, 5, v), 1);
            x.lay(0, 2, 0);
            due(34, "the lowest 16 bits of " + v, x.item(0, 5), (short) v);
        }
        due(34, "NONE in a row of shorts", x.mark(0, 5, NONE), KIND);
        due(34, "INDEX ahead of KIND", x.mark(0, 24, NONE), INDEX);
        all(34, "mark", INDEX, x.mark(0, 24, 0), x.mark(0, -1, 0), x.mark(3, 0, 0), x.mark(3, 0, MAX));
        all(34, "mark", NOTHING, x.mark(1, 0, 0), x.mark(1, -1, 0), x.mark(2, 99, MAX));
        all(34, "mark", BAD, x.mark(-1, 0, 0), x.mark(4, 0, 0));
        x.sheet(3, 1, 2);
        due(34, "floats: 99999", x.mark(3, 0, 99999), 1);
        due(34, "floats: NO NUMBER", x.mark(3, 1, NONE), 1);
        all(34, "mark of floats", BAD, x.mark(3, 0, 100000), x.mark(3, 0, -100000), x.mark(3, 0, BAD), x.mark(3, 1, MAX));
        x.lay(1, 2, 3);
        due(34, "item(1, 0)", x.item(1, 0), 99999);
        due(40, "NO NUMBER", x.item(1, 1), KIND);
        due(34, "floats: -99999", x.mark(3, 1, -99999), 1);
        x.lay(1, 2, 3);
        due(34, "item(1, 1)", x.item(1, 1), -99999);
    }

    private static void pourAndReads() {
        StonesToCome x = new StonesToCome();
        all(35, "pour", BAD, x.pour(-1), x.pour(4));
        due(35, "pour(0)", x.pour(0), NOTHING);
        all(36, "reads", BAD, x.reads(-1), x.reads(4));
        due(36, "reads(0)", x.reads(0), NOTHING);
        x.sends(3, 1, 7);
        x.sends(4, 1, 7);
        x.sends(5, 1, 2);
        x.sheet(0, 1, 5);
        int[] marks = {-3, 12, 9, NONE, 7};
        for (int i = 0; i < 5; i++) x.mark(0, i, marks[i]);
        due(35, "pour(0): 1 and 2 are otherwise", x.pour(0), 2);
        int[] ranks = {0, 9, 9, 7, 7, 2};
        for (int i = 0; i < 6; i++) due(35, "person(" + i + ", 1)", x.person(i, 1), ranks[i]);
        due(35, "RANKS counted anew", x.city(5), 34);
        x.stone(4, 0, 0, 9, 9);
        due(35, "HOLDS by the new RANKS", x.told(0, 6), 1);
        due(35, "pour(0) again", x.pour(0), 0);
        x.sheet(1, 0, 24);
        x.mark(1, 0, 3);
        x.mark(1, 6, 8);
        due(35, "a longer one", x.pour(1), 6);
        due(35, "person(0, 1)", x.person(0, 1), 3);
        due(35, "person(5, 1)", x.person(5, 1), 0);
        x.sheet(1, 0, 0);
        due(35, "an empty one", x.pour(1), 0);

        due(36, "an empty one", x.reads(1), NONE);
        x.sheet(1, 0, 6);
        due(36, "all at 0", x.reads(1), NONE);
        x.sends(4, 0, 3);
        due(36, "number 4 has left", x.reads(1), 4);
        x.mark(1, 4, 3);
        due(36, "as it is", x.reads(1), NONE);
        x.sheet(2, 1, 8);
        due(36, "number 4 first", x.reads(2), 4);
        x.mark(2, 4, NONE);
        due(36, "no one of the PEOPLE has number 6", x.reads(2), 6);
        x.mark(2, 6, NONE);
        due(36, "nor 7", x.reads(2), 7);
        x.mark(2, 7, NONE);
        due(36, "of numbers alone", x.reads(2), NONE);
        x.mark(2, 0, 65536);
        due(36, "a number that is no SQUARE", x.reads(2), 0);
    }

    private static void copy() {
        StonesToCome x = new StonesToCome();
        x.sheet(0, 0, 5);
        x.sheet(1, 1, 3);
        x.sheet(2, 0, 3);
        for (int i = 0; i < 5; i++) x.mark(0, i, 10 + i);
        all(37, "copy", BAD, x.copy(-1, 0, 0, 0, 0), x.copy(4, 0, 0, 0, 0), x.copy(0, 0, -1, 0, 0), x.copy(3, 0, 4, 0, 0));
        all(37, "copy", NOTHING, x.copy(3, 0, 0, 0, 0), x.copy(0, 0, 3, 0, 0), x.copy(3, -1, 1, -1, -1));
        all(37, "copy", KIND, x.copy(0, 0, 1, 0, 1), x.copy(1, 0, 0, 0, 0), x.copy(0, 9, 1, 9, 9));
        all(37, "copy", INDEX, x.copy(0, -1, 2, 0, 1), x.copy(0, 0, 2, -1, 1), x.copy(0, 3, 2, 0, 3), x.copy(0, 0, 2, 1, 3),
            x.copy(0, 0, 2, 0, -1), x.copy(0, 6, 2, 0, 0), x.copy(0, 0, 2, 4, 0), x.copy(0, MAX, 2, 0, 1),
            x.copy(0, 0, 2, MAX, MAX), x.copy(0, 1, 2, 0, MAX), x.copy(0, 0, 2, 0, MIN));
        due(37, "none, at the ends", x.copy(0, 5, 2, 3, 0), 0);
        due(37, "copy(0, 2, 2, 1, 2)", x.copy(0, 2, 2, 1, 2), 2);
        row(x, 37, 2, 0, 12, 13);
        due(37, "upwards in the same", x.copy(0, 0, 0, 1, 4), 4);
        row(x, 37, 0, 10, 10, 11, 12, 13);
        due(37, "downwards in the same", x.copy(0, 1, 0, 0, 4), 4);
        row(x, 37, 0, 10, 11, 12, 13, 13);
        x.mark(1, 0, NONE);
        x.mark(1, 1, 77);
        due(37, "NO NUMBER comes along", x.copy(1, 0, 1, 1, 2), 2);
        x.lay(0, 2, 1);
        due(37, "NO NUMBER came along", x.item(0, 1), KIND);
        due(37, "as they were", x.item(0, 2), 77);
    }

    private static void row(StonesToCome x, int promise, int sheet, int... want) {
        x.lay(4, 2, sheet);
        for (int i = 0; i < want.length; i++) due(promise, "place " + i + " of " + sheet, x.item(4, i), want[i]);
        due(promise, "no place more", x.item(4, want.length), INDEX);
    }

    private static void slots() {
        StonesToCome x = new StonesToCome();
        x.stone(3, 0, 0, 4, 9);
        x.sheet(2, 0, 2);
        x.mark(2, 1, -5);
        all(38, "lay", BAD, x.lay(-1, 0, 0), x.lay(5, 0, 0), x.lay(0, -1, 0), x.lay(0, 4, 0), x.lay(0, 1, 1), x.lay(0, 1, -1),
            x.lay(0, 2, 4), x.lay(0, 2, -1));
        all(38, "lay", NOTHING, x.lay(0, 2, 0), x.lay(0, 2, 3));
        due(38, "lay(0, 0, 99)", x.lay(0, 0, 99), 0);
        due(38, "lay(0, 1, 0)", x.lay(0, 1, 0), 0);
        due(38, "lay(0, 2, 2)", x.lay(0, 2, 2), 1);
        due(38, "lay(0, 3, MIN)", x.lay(0, 3, MIN), 2);
        due(38, "lay(0, 0, 0)", x.lay(0, 0, 0), 3);
        due(38, "lay(4, 0, 0)", x.lay(4, 0, 0), 0);
        all(38, "holds nothing", NOTHING, x.ask(0, 0), x.item(0, 0), x.rest(0, 0), x.item(0, -1));
        x.lay(1, 1, 0);
        x.lay(2, 2, 2);
        x.lay(3, 3, -17);
        x.turns(0, 5);
        x.set(0, 3, 9);
        x.mark(2, 1, 8);
        x.sheet(2, -1, 0);
        due(39, "as it was then", x.ask(1, 3), 18);
        due(39, "taken for a BENCH", x.ask(1, 1), 18);
        due(39, "taken for a STONE", x.ask(1, 0), 18);
        all(39, "not of that KIND, or no STONE", KIND, x.ask(1, 2), x.ask(1, 4), x.ask(1, 5), x.ask(2, 0), x.ask(3, 0));
        all(39, "ask", BAD, x.ask(-1, 0), x.ask(5, 0), x.ask(1, 6), x.ask(1, -1), x.ask(0, 6), x.ask(2, 6));
        due(40, "as it was then", x.item(2, 1), -5);
        due(40, "item(2, 0)", x.item(2, 0), 0);
        all(40, "item", INDEX, x.item(2, 2), x.item(2, -1), x.item(2, MAX));
        all(40, "item", KIND, x.item(1, 0), x.item(3, 0), x.item(3, -1));
        all(40, "item", BAD, x.item(-1, 0), x.item(5, 0));
        due(41, "-17 by 5", x.rest(3, 5), -2);
        due(41, "-17 by -5", x.rest(3, -5), -2);
        due(41, "-17 by 0", x.rest(3, 0), NO);
        all(41, "rest", KIND, x.rest(1, 5), x.rest(2, 0));
        all(41, "rest", BAD, x.rest(-1, 0), x.rest(5, 1));
        x.lay(3, 3, MIN);
        due(41, "the least int by -1", x.rest(3, -1), 0);
        due(41, "the least int by 10", x.rest(3, 10), -8);
        x.lay(1, 0, 0);
        due(38, "nothing again", x.ask(1, 0), NOTHING);
    }

    // ---- promises 42 to 46

    private static void rowsAndImages() {
        tellAndCheck();
        checkAtTheEnd();
        images();
        counts();
    }

    private static void tellAndCheck() {
        StonesToCome x = new StonesToCome();
        for (int i = 1; i <= 60; i++) due(42, "tell", x.tell(i), i);
        due(42, "the sixty-first", x.tell(0), FULL);
        due(42, "count(5)", x.count(5), 60);
        due(43, "BAD ahead of NO", x.check(0), BAD);
        due(43, "none wait then", x.count(5), 0);
        x.tell(1);
        due(43, "no IMAGE", x.check(1), NO);
        due(43, "none wait then", x.count(5), 0);
        x.seed(12);
        x.deal(10);
        text(x, "cost w*4-l");
        x.years(2);
        x.keep();
        int[] rows = new int[60];
        for (int i = 0; i < 30; i++) {
            x.years(1);
            rows[2 * i] = x.city(0);
            rows[2 * i + 1] = x.city(5);
        }
        text(x, "cost 50");
        x.deal(10);
        due(43, "all 30 YEARS", tellAll(x, rows, 60, -1).check(30), 0);
        due(43, "5 YEARS", tellAll(x, rows, 10, -1).check(5), 0);
        due(43, "one too many", tellAll(x, rows, 11, -1).check(5), 11);
        due(43, "one is missing", tellAll(x, rows, 9, -1).check(5), 10);
        due(43, "none at all", tellAll(x, rows, 0, -1).check(5), 1);
        for (int i = 0; i < 10; i++) due(43, "number " + i + " is not", tellAll(x, rows, 10, i).check(5), 1 + i);
        due(43, "check(31)", tellAll(x, rows, 10, -1).check(31), BAD);
        due(43, "none wait then", x.count(5), 0);
        all(43, "check", BAD, x.check(-1), x.check(MIN), x.check(MAX));
    }

    private static StonesToCome tellAll(StonesToCome x, int[] rows, int many, int changed) {
        for (int i = 0; i < many; i++) x.tell(rows[i] + (i == changed ? 1 : 0));
        return x;
    }

    private static void checkAtTheEnd() {
        StonesToCome x = still();
        x.stone(0, 0, 1, 0, 0);
        for (int i = 0; i < 99; i++) x.years(100);
        x.years(97);
        x.keep();
        x.tell(9998);
        x.tell(0);
        x.tell(9999);
        x.tell(0);
        due(43, "only two YEARS are left", x.check(30), 0);
        x.years(2);
        x.keep();
        due(43, "no YEAR is left", x.check(1), 0);
        x.tell(9999);
        due(43, "no YEAR is left, one too many", x.check(1), 1);
    }

    private static void images() {
        StonesToCome x = still();
        due(45, "back()", x.back(), NO);
        due(44, "keep() of none", x.keep(), 0);
        x.stone(1, 2, 1, 4, 20);
        x.stone(5, 2, 3, 4, 20);
        x.years(3);
        x.sends(2, 1, 5);
        text(x, "cost 7");
        text(x, "fee c+1");
        x.rule(0, 33);
        x.rule(1, 44);
        x.seed(555);
        due(44, "keep()", x.keep(), 2);
        x.sheet(0, 0, 2);
        x.lay(0, 3, 9);
        x.tell(1);
        x.feed(0, 0, 0);
        for (int round = 0; round < 2; round++) {
            x.turns(0, 4);
            x.set(1, 4, 9);
            x.undone(1);
            x.deal(8);
            x.sends(0, 0, 3);
            x.sends(2, 1, 0);
            text(x, "cost 9");
            text(x, "fine 3");
            x.feed(0, 0, 0);
            x.rule(0, 1);
            x.rule(1, 2);
            x.years(50);
            due(45, "back()", x.back(), 2);
            int[] counts = {2, 3, 33, 44, 2, 1, 12, 555};
            for (int i = 0; i < 8; i++) due(45, "count(" + i + ")", x.count(i), counts[i]);
            int[] city = {0, 0, 2, 1, 2, 5};
            for (int i = 0; i < 6; i++) due(45, "city(" + i + ")", x.city(i), city[i]);
            int[] first = {1, 2, 1, 4, 20, NONE, 0, 3, 9};
            int[] second = {5, 2, 3, 4, 20, 0, 1, 0, 8};
            for (int i = 0; i < 9; i++) due(45, "told(0, " + i + ")", x.told(0, i), first[i]);
            for (int i = 0; i < 9; i++) due(45, "told(1, " + i + ")", x.told(1, i), second[i]);
            due(45, "at(0)", x.at(0), 63);
            due(45, "person(2, 1)", x.person(2, 1), 5);
            due(45, "why(0)", x.why(0), 0);
            due(45, "why(1)", x.why(1), 1);
            due(45, "why(2)", x.why(2), NONE);
            due(45, "fee()", x.fee(), 1);
            due(45, "sheets stay", x.reads(0), NONE);
            due(45, "slots stay", x.rest(0, 5), 4);
        }
        due(30, "the number behind an IMAGE", text(x, "fine 2"), 2);
        due(44, "told(2, 0)", x.told(2, 0), BAD);
        x.stone(0, 0, 0, 0, 3);
        due(44, "keep() anew", x.keep(), 3);
        x.years(1);
        due(45, "back() to the new one", x.back(), 3);
        due(45, "a STONE put up where one was FULFILLED", x.told(2, 5), NONE);
    }

    private static void counts() {
        StonesToCome x = new StonesToCome();
        x.stone(0, 0, 0, 0, 0);
        x.stone(0, 0, 0, 0, 0);
        x.years(3);
        x.rule(0, 12);
        x.rule(1, 13);
        text(x, "fee 1");
        x.tell(1);
        x.tell(2);
        x.feed(1, 2, 3);
        x.trim(7);
        x.seed(-1);
        int[] counts = {2, 3, 12, 13, 1, 2, 7, -1};
        for (int i = 0; i < 8; i++) due(46, "count(" + i + ")", x.count(i), counts[i]);
        all(46, "count", BAD, x.count(-1), x.count(8), x.count(MIN), x.count(MAX));
    }
}
