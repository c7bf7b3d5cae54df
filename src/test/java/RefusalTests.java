import java.util.List;
import java.util.function.Consumer;
import java.util.function.Supplier;

/**
 * Every refusal of every promise: the first value on either side that is not taken, two refusals at once (the one that stands
 * first with the promise is answered), and that nothing has changed behind it. A refused call is made on a new object with much
 * in it, and all that the object shows then is compared with what one shows on which the call was not made.
 */
public final class RefusalTests extends Checks {
    /** What lies outside of a row of numbers from 0 on, however long it is. */
    private static final int[] FAR = {MIN, BAD, NONE, -2, -1, MAX};

    private static Supplier<StonesToCome> making;
    private static List<Integer> untouched;

    public static void main(String[] args) {
        with(RefusalTests::rich);
        richIsRich();
        stones();
        people();
        years();
        thoughts();
        texts();
        sheets();
        slots();
        rows();
        full();
        empty();
        end();
    }

    // ---- objects on which calls are refused

    private static void with(Supplier<StonesToCome> maker) {
        making = maker;
        untouched = shows(maker.get());
    }

    /** Something of all: STONES that are open, FULFILLED, past, TEXTS of each KEY, SHEETS and SLOTS of each sort, an IMAGE. */
    private static StonesToCome rich() {
        StonesToCome x = new StonesToCome();
        x.seed(20261118);
        x.stone(3, 1, 0, 4, 20);
        x.stone(0, 5, 3, 9, 1);
        x.stone(2, 3, 2, 0, 30);
        x.rule(0, 55);
        x.rule(1, 45);
        text(x, "cost w+y-l/9");
        text(x, "fee c*2+m");
        text(x, "fine w*9-r");
        x.years(3);
        int[] told = yearsTold(x, 2);
        x.stone(4, 2, 1, 9, 44);
        x.stone(5, 0, 2, 3, 55);
        x.sends(4, 0, 3);
        x.sends(5, 1, 7);
        x.rule(0, 66);
        x.rule(1, 33);
        text(x, "cost 7*w");
        x.years(2);
        x.sheet(0, 0, 7);
        for (int i = 0; i < 7; i++) x.mark(0, i, 3 * i - 9);
        x.sheet(1, 1, 4);
        x.mark(1, 0, 99999);
        x.mark(1, 1, NONE);
        x.mark(1, 2, -99999);
        x.sheet(2, 0, 0);
        x.lay(1, 1, 0);
        x.lay(2, 2, 1);
        x.lay(3, 3, -17);
        x.lay(4, 2, 0);
        for (int v : told) x.tell(v);
        type(x, "fee m*7+c");
        return x;
    }

    /** The tables below go by this. */
    private static void richIsRich() {
        int[] counts = {5, 5, 66, 33, 4, 4, 9};
        for (int i = 0; i < counts.length; i++) due(1, "count(" + i + ") of rich", rich().count(i), counts[i]);
        due(1, "FULFILLED of rich", rich().city(2), 0b10101);
        due(1, "OPEN of rich", rich().city(3), 0b01000);
        due(1, "MISSED of rich", rich().city(1), 1);
        due(1, "the numbers that wait of rich", rich().check(2), 0);
        due(1, "THE TAPE of rich", rich().text(), 4);
        due(1, "THE IMAGE of rich", rich().back(), 3);
    }

    /** AN IMAGE is kept: THE YEARS TOLD of it, so that check sees each of them that is otherwise. */
    private static int[] yearsTold(StonesToCome x, int n) {
        x.keep();
        int[] told = new int[2 * n];
        for (int i = 0; i < n; i++) {
            x.years(1);
            told[2 * i] = x.city(0);
            told[2 * i + 1] = x.city(5);
        }
        x.back();
        return told;
    }

    private static StonesToCome manyWaiting() {
        StonesToCome x = new StonesToCome();
        x.deal(3);
        for (int v : yearsTold(x, 30)) x.tell(v);
        return x;
    }

    private static StonesToCome prepared(Consumer<StonesToCome> how) {
        StonesToCome x = rich();
        how.accept(x);
        return x;
    }

    // ---- asking

    private static void refused(int promise, int want, String name, int... args) {
        StonesToCome x = making.get();
        due(promise, shown(name, args), call(x, name, args), want);
        unchanged(promise, shown(name, args), shows(x), untouched);
    }

    private static void unchanged(int promise, String call, List<Integer> shown, List<Integer> before) {
        int first = 0;
        while (first < shown.size() && first < before.size() && shown.get(first).equals(before.get(first))) first++;
        boolean same = first == shown.size() && first == before.size();
        due(promise, "nothing changes by " + call + ", seen " + first, same ? 1 : 0, 1);
    }

    /** Argument number k is put outside of 0 .. last, on either side, the others being as they are. */
    private static void outside(int promise, int want, String name, int k, int last, int... args) {
        outsideOf(promise, want, name, k, 0, last, args);
    }

    private static void outsideOf(int promise, int want, String name, int k, int first, int last, int... args) {
        int[] values = {MIN, first - 1, last + 1, MAX};
        for (int v : values) {
            int[] changed = args.clone();
            changed[k] = v;
            refused(promise, want, name, changed);
        }
    }

    // ---- promises 2 to 13

    private static void stones() {
        int[] last = {5, 5, 3, 9, 9999};
        for (int k = 0; k < 5; k++) outside(2, BAD, "stone", k, last[k], 0, 0, 0, 0, 0);
        for (int what = 0; what < 9; what++) outside(3, BAD, "told", 0, 4, 0, what);
        outside(3, BAD, "told", 1, 8, 4, 0);
        for (int kind = 0; kind < 6; kind++) outside(4, BAD, "as", 0, 4, 0, kind);
        for (int stone = 0; stone < 5; stone++) outside(4, BAD, "as", 1, 5, stone, 0);
        // PLAQUE, STONE, COLUMN, BRONZE, CANVAS: of which KINDS each is not.
        int[][] not = {{2, 4, 5}, {1, 2, 3, 4, 5}, {1, 3, 4, 5}, {1, 3, 5}, {1, 2, 3, 4}};
        for (int stone = 0; stone < 5; stone++) for (int kind : not[stone]) refused(4, KIND, "as", stone, kind);
        outside(5, BAD, "turns", 0, 4, 0, 5);
        outside(5, BAD, "turns", 1, 5, 4, 0);
        for (int what = 1; what <= 4; what++) {
            outside(6, BAD, "set", 0, 4, 0, what, 1);
            outside(6, BAD, "set", 2, last[what], 4, what, 0);
        }
        outsideOf(6, BAD, "set", 1, 1, 4, 0, 0, 1);
        outside(7, BAD, "undone", 0, 4, 0);
        for (int stone : new int[] {1, 3}) refused(7, NO, "undone", stone);
    }

    private static void people() {
        for (int what = 0; what < 2; what++) {
            outside(8, BAD, "person", 0, 5, 0, what);
            outside(9, BAD, "sends", 0, 5, 0, what, 1);
            outside(11, BAD, "rule", 1, 100, what, 0);
        }
        outside(8, BAD, "person", 1, 1, 5, 0);
        outside(9, BAD, "sends", 1, 1, 5, 0, 1);
        for (int one = 0; one < 6; one++) {
            outside(9, BAD, "sends", 2, 3, one, 0, 0);
            outside(9, BAD, "sends", 2, 9, one, 1, 0);
        }
        outside(10, BAD, "at", 0, 3, 0);
        outside(11, BAD, "rule", 0, 1, 0, 50);
        outsideOf(12, BAD, "deal", 0, 1, 10, 0);
    }

    // ---- promises 14 to 17

    private static void years() {
        outsideOf(14, BAD, "years", 0, 1, 100, 0);
        outside(15, BAD, "city", 0, 5, 0);
        outsideOf(16, BAD, "together", 0, -1, 5, 0);
        outside(17, BAD, "clash", 0, 4, 0, 1);
        outside(17, BAD, "clash", 1, 4, 1, 0);
        for (int stone = 0; stone < 5; stone++) refused(17, BAD, "clash", stone, stone);
        for (int v : FAR) refused(17, BAD, "clash", v, v);
    }

    // ---- promises 18 to 27

    private static void thoughts() {
        for (int what = 0; what < 9; what++) outside(18, BAD, "behind", 0, 100, 0, what);
        outside(18, BAD, "behind", 1, 8, 0, 0);
        outside(18, BAD, "behind", 1, 8, 100, 0);
        outside(19, BAD, "fulfils", 0, 4, 0);
        for (int what = 0; what < 3; what++) outsideOf(20, BAD, "sent", 0, 1, 30, 1, what);
        outside(20, BAD, "sent", 1, 2, 1, 0);
        for (int what = 0; what < 2; what++) {
            outsideOf(21, BAD, "raised", 0, 1, 60, 1, what);
            outsideOf(22, BAD, "scrap", 0, 1, 60, 1, what);
            outside(23, BAD, "becomes", 0, 4, 0, 1, what);
            outsideOf(23, BAD, "becomes", 1, 1, 60, 4, 1, what);
            outside(25, BAD, "whose", 0, 3, 0, what);
            refused(25, NOTHING, "whose", 3, what);
        }
        outside(21, BAD, "raised", 1, 1, 60, 0);
        outside(22, BAD, "scrap", 1, 1, 60, 0);
        outside(23, BAD, "becomes", 2, 1, 0, 60, 0);
        outside(24, BAD, "latest", 0, 4, 0);
        outside(25, BAD, "whose", 1, 1, 0, 0);
        // A SHEET that is MISSING, and what is wrong, too.
        outside(25, BAD, "whose", 1, 1, 3, 0);
        outside(27, BAD, "fine", 0, 4, 0);
    }

    // ---- promises 28 to 32

    private static void texts() {
        outside(29, BAD, "trim", 0, 9, 0);
        outside(31, BAD, "textTold", 0, 3, 0, 0);
        outside(31, BAD, "textTold", 0, 3, 0, 1);
        outside(31, BAD, "textTold", 1, 1, 3, 0);
        outside(32, BAD, "why", 0, 2, 0);
        faultUsesUp("");
        faultUsesUp("fee 1)");
        faultUsesUp("cost");
        faultUsesUp("fine 12345");
    }

    /** A text with a FAULT: nothing changes but THE TAPE, which is used up. */
    private static void faultUsesUp(String bytes) {
        StonesToCome x = prepared(o -> type(o, bytes));
        due(30, "a FAULT in '" + bytes + "'", x.text() <= -100 ? 1 : 0, 1);
        due(30, "it is used up", x.count(6), 0);
        unchanged(30, "a FAULT in '" + bytes + "'", shows(x), shows(prepared(o -> o.trim(0))));
    }

    // ---- promises 33 to 37

    private static void sheets() {
        sheet();
        mark();
        outside(35, BAD, "pour", 0, 3, 0);
        refused(35, NOTHING, "pour", 3);
        outside(36, BAD, "reads", 0, 3, 0);
        refused(36, NOTHING, "reads", 3);
        copy();
    }

    private static void sheet() {
        for (int sort = -1; sort < 2; sort++) outside(33, BAD, "sheet", 0, 3, 0, sort, 5);
        for (int sheet = 0; sheet < 4; sheet++) {
            outsideOf(33, BAD, "sheet", 1, -1, 1, sheet, 0, 5);
            for (int sort = 0; sort < 2; sort++) {
                refused(33, BAD, "sheet", sheet, sort, 25);
                refused(33, BAD, "sheet", sheet, sort, MAX);
                refused(33, SIZE, "sheet", sheet, sort, -1);
                refused(33, SIZE, "sheet", sheet, sort, MIN);
            }
        }
        // BAD stands ahead of SIZE.
        outside(33, BAD, "sheet", 0, 3, 0, 0, -1);
        outsideOf(33, BAD, "sheet", 1, -1, 1, 0, 0, -1);
    }

    private static void mark() {
        outside(34, BAD, "mark", 0, 3, 0, 0, 1);
        outside(34, INDEX, "mark", 1, 6, 0, 0, 1);
        outside(34, INDEX, "mark", 1, 3, 1, 0, 1);
        for (int place : new int[] {MIN, -1, 0, 1, 24, MAX}) {
            refused(34, INDEX, "mark", 2, place, 1);
            refused(34, NOTHING, "mark", 3, place, 1);
        }
        for (int place = 0; place < 7; place++) refused(34, KIND, "mark", 0, place, NONE);
        for (int place = 0; place < 4; place++) {
            for (int v : new int[] {MIN, BAD, NO, FULL, NONE - 1, NONE + 1, -100000, 100000, MAX}) refused(34, BAD, "mark", 1, place, v);
        }
        // BAD: sheet; NOTHING; INDEX; KIND; BAD: v.
        outside(34, BAD, "mark", 0, 3, 0, -1, NONE);
        refused(34, NOTHING, "mark", 3, 0, NONE);
        refused(34, NOTHING, "mark", 3, 0, 100000);
        refused(34, INDEX, "mark", 0, 7, NONE);
        refused(34, INDEX, "mark", 0, -1, NONE);
        refused(34, INDEX, "mark", 1, 4, 100000);
        refused(34, INDEX, "mark", 1, -1, -100000);
    }

    private static void copy() {
        outside(37, BAD, "copy", 0, 3, 0, 0, 0, 0, 1);
        outside(37, BAD, "copy", 2, 3, 0, 0, 0, 0, 1);
        refused(37, NOTHING, "copy", 3, 0, 0, 0, 0);
        refused(37, NOTHING, "copy", 0, 0, 3, 0, 0);
        refused(37, NOTHING, "copy", 3, 0, 3, 0, 0);
        refused(37, KIND, "copy", 0, 0, 1, 0, 1);
        refused(37, KIND, "copy", 1, 0, 0, 0, 1);
        refused(37, KIND, "copy", 1, 0, 2, 0, 0);
        // From the row of 7 to itself: the first place on either side that is not there, for none, one, and all.
        for (int many : new int[] {0, 1, 7}) {
            int last = 7 - many;
            outside(37, INDEX, "copy", 1, last, 0, 0, 0, 0, many);
            outside(37, INDEX, "copy", 3, last, 0, 0, 0, 0, many);
        }
        for (int many : new int[] {MIN, -1, 8, MAX}) refused(37, INDEX, "copy", 0, 0, 0, 0, many);
        refused(37, INDEX, "copy", 0, 0, 2, 0, 1);
        refused(37, INDEX, "copy", 2, 0, 0, 0, 1);
        refused(37, INDEX, "copy", 0, MAX, 0, MAX, MAX);
        refused(37, INDEX, "copy", 0, 1, 0, 0, MAX);
        refused(37, INDEX, "copy", 0, 0, 0, 1, MAX);
        // BAD; NOTHING; KIND; INDEX.
        outside(37, BAD, "copy", 0, 3, 0, 0, 3, 0, 1);
        outside(37, BAD, "copy", 2, 3, 3, 0, 0, 0, 1);
        outside(37, BAD, "copy", 0, 3, 0, 9, 0, 9, 9);
        refused(37, NOTHING, "copy", 3, 0, 1, 0, 1);
        refused(37, NOTHING, "copy", 1, 0, 3, 0, 1);
        refused(37, NOTHING, "copy", 3, -1, 0, -1, -1);
        refused(37, KIND, "copy", 0, -1, 1, 0, 1);
        refused(37, KIND, "copy", 0, 0, 1, 4, 1);
        refused(37, KIND, "copy", 0, 0, 1, 0, -1);
    }

    // ---- promises 38 to 41

    private static void slots() {
        for (int thing = 0; thing < 4; thing++) outside(38, BAD, "lay", 0, 4, 0, thing, 0);
        for (int slot = 0; slot < 5; slot++) {
            outside(38, BAD, "lay", 1, 3, slot, 0, 0);
            outside(38, BAD, "lay", 2, 4, slot, 1, 0);
            outside(38, BAD, "lay", 2, 3, slot, 2, 0);
            refused(38, NOTHING, "lay", slot, 2, 3);
        }
        outside(38, BAD, "lay", 0, 4, 0, 2, 3);
        outside(38, BAD, "lay", 1, 3, 0, 0, 3);
        ask();
        item();
        rest();
    }

    private static void ask() {
        for (int kind = 0; kind < 6; kind++) {
            outside(39, BAD, "ask", 0, 4, 0, kind);
            refused(39, NOTHING, "ask", 0, kind);
            for (int slot = 2; slot < 5; slot++) refused(39, KIND, "ask", slot, kind);
        }
        for (int kind : new int[] {2, 4, 5}) refused(39, KIND, "ask", 1, kind);
        // BAD stands ahead of NOTHING and of KIND.
        for (int slot = 0; slot < 5; slot++) outside(39, BAD, "ask", 1, 5, slot, 0);
    }

    private static void item() {
        outside(40, BAD, "item", 0, 4, 0, 0);
        outside(40, BAD, "item", 0, 4, 0, -1);
        outside(40, INDEX, "item", 1, 3, 2, 0);
        outside(40, INDEX, "item", 1, 6, 4, 0);
        refused(40, KIND, "item", 2, 1);
        for (int place : new int[] {MIN, -1, 0, 1, 24, MAX}) {
            refused(40, NOTHING, "item", 0, place);
            refused(40, KIND, "item", 1, place);
            refused(40, KIND, "item", 3, place);
        }
    }

    private static void rest() {
        for (int n : new int[] {MIN, -1, 0, 1, MAX}) {
            outside(41, BAD, "rest", 0, 4, 0, n);
            refused(41, NOTHING, "rest", 0, n);
            for (int slot : new int[] {1, 2, 4}) refused(41, KIND, "rest", slot, n);
        }
        refused(41, NO, "rest", 3, 0);
    }

    // ---- promises 42 to 46

    private static void rows() {
        outside(46, BAD, "count", 0, 7, 0);
        for (int n : new int[] {MIN, -1, 0, 31, MAX}) {
            StonesToCome x = rich();
            due(43, shown("check", n), x.check(n), BAD);
            due(43, "none wait then", x.count(5), 0);
            StonesToCome y = rich();
            y.check(1);
            unchanged(43, shown("check", n), shows(x), shows(y));
        }
    }

    // ---- what is full

    private static void full() {
        with(() -> prepared(x -> x.deal(5)));
        refused(2, FULL, "stone", 0, 0, 0, 0, 0);
        refused(2, FULL, "stone", 5, 5, 3, 9, 9999);
        int[] last = {5, 5, 3, 9, 9999};
        for (int k = 0; k < 5; k++) outside(2, BAD, "stone", k, last[k], 0, 0, 0, 0, 0);
        for (int n : new int[] {1, 10}) {
            StonesToCome x = making.get();
            due(12, "no room: " + shown("deal", n), x.deal(n), 0);
            unchanged(12, shown("deal", n), shows(x), untouched);
        }
        outsideOf(12, BAD, "deal", 0, 1, 10, 0);
        outside(3, BAD, "told", 0, 9, 0, 0);

        with(() -> prepared(x -> {
            x.trim(0);
            for (int i = 0; i < 7; i++) x.feed(0x66656520, 0x312b2020, 0x20202020);
            x.trim(73);
            x.feed(0x20202020, 0x20202020, 0x20202032);
        }));
        refused(28, FULL, "feed", 0, 0, 0);
        refused(28, FULL, "feed", MIN, -1, MAX);
        outside(29, BAD, "trim", 0, 85, 0);

        with(RefusalTests::manyWaiting);
        due(43, "all that wait are right", manyWaiting().check(30), 0);
        refused(42, FULL, "tell", 0);
        refused(42, FULL, "tell", NONE);
        fullOfTexts();
    }

    private static StonesToCome manyTexts() {
        StonesToCome x = still();
        x.stone(0, 0, 1, 4, 70);
        x.keep();
        for (int i = 0; i < 14; i++) text(x, new String[] {"cost 1", "fee 22", "fine 333"}[i % 3]);
        return x;
    }

    private static void fullOfTexts() {
        with(RefusalTests::manyTexts);
        outside(31, BAD, "textTold", 0, 13, 0, 0);
        for (String bytes : new String[] {"cost 9", "fee 9", "fine 9", "fee 9)", "cost", ""}) {
            StonesToCome x = manyTexts();
            int fault = bytes.equals("fee 9)") ? -105 : bytes.equals("cost") ? -104 : bytes.isEmpty() ? -100 : FULL;
            due(30, "no room for '" + bytes + "'", text(x, bytes), fault);
            due(30, "it is used up", x.count(6), 0);
            unchanged(30, "no room for '" + bytes + "'", shows(x), untouched);
        }
    }

    // ---- what is empty

    private static void empty() {
        with(StonesToCome::new);
        for (int stone : new int[] {MIN, -1, 0, 1, 9, 10, MAX}) {
            for (int what = 0; what < 9; what++) refused(3, BAD, "told", stone, what);
            refused(4, BAD, "as", stone, 0);
            refused(5, BAD, "turns", stone, 0);
            for (int what = 1; what < 5; what++) refused(6, BAD, "set", stone, what, 0);
            refused(7, BAD, "undone", stone);
            refused(17, BAD, "clash", stone, 0);
            refused(17, BAD, "clash", 0, stone);
            refused(19, BAD, "fulfils", stone);
            refused(23, BAD, "becomes", stone, 1, 0);
            refused(24, BAD, "latest", stone);
            refused(27, BAD, "fine", stone);
            refused(31, BAD, "textTold", stone, 0);
            for (int slot = 0; slot < 5; slot++) refused(38, BAD, "lay", slot, 1, stone);
        }
        refused(22, NONE, "scrap", 1, 0);
        refused(22, NONE, "scrap", 60, 1);
        outsideOf(22, BAD, "scrap", 0, 1, 60, 1, 0);
        outside(22, BAD, "scrap", 1, 1, 1, 0);
        for (int key = 0; key < 3; key++) refused(32, NONE, "why", key);
        outside(32, BAD, "why", 0, 2, 0);
        outside(29, BAD, "trim", 0, 0, 0);
        for (int sheet = 0; sheet < 4; sheet++) {
            refused(25, NOTHING, "whose", sheet, 0);
            refused(34, NOTHING, "mark", sheet, 0, 0);
            refused(35, NOTHING, "pour", sheet);
            refused(36, NOTHING, "reads", sheet);
            refused(37, NOTHING, "copy", sheet, 0, sheet, 0, 0);
            for (int slot = 0; slot < 5; slot++) refused(38, NOTHING, "lay", slot, 2, sheet);
        }
        for (int slot = 0; slot < 5; slot++) {
            refused(39, NOTHING, "ask", slot, 0);
            refused(40, NOTHING, "item", slot, 0);
            refused(41, NOTHING, "rest", slot, 1);
            refused(41, NOTHING, "rest", slot, 0);
        }
        refused(43, NO, "check", 1);
        refused(43, NO, "check", 30);
        outsideOf(43, BAD, "check", 0, 1, 30, 1);
        refused(45, NO, "back");
        numbersWithoutAnImage();
    }

    private static void numbersWithoutAnImage() {
        for (int n : new int[] {1, 30, 0, 31}) {
            StonesToCome x = new StonesToCome();
            for (int i = 0; i < 60; i++) x.tell(i);
            due(43, "no IMAGE: " + shown("check", n), x.check(n), n == 0 || n == 31 ? BAD : NO);
            due(43, "none wait then", x.count(5), 0);
            due(42, "tell is free again", x.tell(5), 1);
        }
    }
}
