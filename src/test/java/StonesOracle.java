import java.util.ArrayList;
import java.util.List;
import java.util.function.IntPredicate;

/**
 * The document's promises once more, worked out as literally as can be and in another way than the program does it:
 * every thought is a full copy that lives YEARS, every choice is tried out, TEXTS are read by a machine of states.
 * OracleRuns compares the two call by call.
 */
final class StonesOracle {
    static final int BAD = -1000000001, NO = -1000000002, FULL = -1000000003, NONE = -1000000005,
            NOTHING = -1000000011, KIND = -1000000012, INDEX = -1000000013, SIZE = -1000000014;

    static class S {
        int kind, who, where, what, when;
        Integer done;
        boolean scrapped;

        S twin() {
            S s = new S();
            s.kind = kind;
            s.who = who;
            s.where = where;
            s.what = what;
            s.when = when;
            s.done = done;
            s.scrapped = scrapped;
            return s;
        }
    }

    static class T {
        int key, leaves;
        List<String> rpn;
    }

    static class W {
        int[] at = new int[6], rank = new int[6];
        List<S> stones = new ArrayList<>();
        List<T> texts = new ArrayList<>();
        int moves = 60, rises = 40, cost, missed, year, z = 1;

        W twin() {
            W w = new W();
            w.at = at.clone();
            w.rank = rank.clone();
            for (S s : stones) w.stones.add(s.twin());
            w.texts.addAll(texts);
            w.moves = moves;
            w.rises = rises;
            w.cost = cost;
            w.missed = missed;
            w.year = year;
            w.z = z;
            return w;
        }

        int draw() {
            z = z * 1103515245 + 12345;
            return z >>> 8;
        }

        boolean anybody(IntPredicate p) {
            for (int i = 0; i < 6; i++) if (p.test(i)) return true;
            return false;
        }

        boolean holds(S s) {
            switch (s.kind) {
                case 0: return at[s.who] == s.where && rank[s.who] >= s.what;
                case 1: return at[s.who] == s.where;
                case 2: return rank[s.who] >= s.what;
                case 3: return at[s.who] == s.where && anybody(i -> i != s.who && at[i] == s.where);
                case 4: return anybody(i -> at[i] == s.where && rank[i] >= s.what);
                default: return !anybody(i -> at[i] == s.where);
            }
        }

        T law(int key) {
            T last = null;
            for (T t : texts) if (t.key == key) last = t;
            return last;
        }

        int keepsAs(int kind, S s) {
            switch (kind) {
                case 0: {
                    T t = law(0);
                    if (t == null) return 1;
                    int l = s.when < year ? 0 : s.when - year;
                    int v = work(t, s.what, year, l);
                    return v < 0 ? 0 : v > 99 ? 99 : v;
                }
                case 1: return keepsAs(0, s) / 2;
                case 2: return keepsAs(0, s) * 2;
                case 3: return keepsAs(1, s) + 1;
                case 4: return keepsAs(2, s) + 3;
                default: return 0;
            }
        }

        int worthAs(int kind, S s) {
            switch (kind) {
                case 0: return s.what;
                case 1: return worthAs(0, s) + 5;
                case 2: return 9 - s.what;
                case 3: return 2 * worthAs(1, s);
                case 4: return worthAs(2, s) - 4;
                default: return 8;
            }
        }

        int year() {
            int came = 0;
            if (draw() % 100 < moves) {
                int one = draw() % 6, sq = draw() % 4;
                at[one] = sq;
            }
            if (draw() % 100 < rises) {
                int one = draw() % 6;
                rank[one] = rank[one] == 9 ? 0 : rank[one] + 1;
            }
            for (S s : stones) {
                if (s.done != null || s.scrapped) continue;
                if (year <= s.when && holds(s)) {
                    s.done = year;
                    came++;
                } else {
                    cost += keepsAs(s.kind, s);
                    if (year == s.when) missed++;
                }
            }
            year++;
            return came;
        }

        W later(int n) {
            for (int i = 0; i < n; i++) year();
            return this;
        }

        int fulfilled() {
            int n = 0;
            for (S s : stones) if (s.done != null) n++;
            return n;
        }

        int ranks() {
            int n = 0;
            for (int r : rank) n += r;
            return n;
        }

        boolean open(S s) {
            return s.done == null && s.when >= year;
        }
    }

    static class Row {
        int sort;
        Integer[] v;
    }

    W w = new W(), image;
    Row[] sheets = new Row[4];
    Object[] slots = new Object[5];
    List<Integer> waiting = new ArrayList<>();
    List<Integer> tape = new ArrayList<>();

    static boolean in(int v, int lo, int hi) {
        return lo <= v && v <= hi;
    }

    boolean isStone(int s) {
        return in(s, 0, w.stones.size() - 1);
    }

    int stone(int kind, int who, int where, int what, int when) {
        if (!in(kind, 0, 5) || !in(who, 0, 5) || !in(where, 0, 3) || !in(what, 0, 9) || !in(when, 0, 9999)) return BAD;
        if (w.stones.size() == 10) return FULL;
        S s = new S();
        s.kind = kind;
        s.who = who;
        s.where = where;
        s.what = what;
        s.when = when;
        w.stones.add(s);
        return w.stones.size() - 1;
    }

    int told(int stone, int what) {
        if (!isStone(stone) || !in(what, 0, 8)) return BAD;
        S s = w.stones.get(stone);
        int[] all = {s.kind, s.who, s.where, s.what, s.when, s.done == null ? NONE : s.done, w.holds(s) ? 1 : 0,
            w.keepsAs(s.kind, s), w.worthAs(s.kind, s)};
        return all[what];
    }

    static boolean under(int kind, int other) {
        if (kind == other || other == 0) return true;
        return kind == 3 && other == 1 || kind == 4 && other == 2;
    }

    int as(int stone, int kind) {
        if (!isStone(stone) || !in(kind, 0, 5)) return BAD;
        S s = w.stones.get(stone);
        return under(s.kind, kind) ? s.what : KIND;
    }

    int turns(int stone, int kind) {
        if (!isStone(stone) || !in(kind, 0, 5)) return BAD;
        S s = w.stones.get(stone);
        int was = s.kind;
        s.kind = kind;
        return was;
    }

    int set(int stone, int what, int v) {
        if (!isStone(stone) || !in(what, 1, 4)) return BAD;
        if (!in(v, 0, new int[] {0, 5, 3, 9, 9999}[what])) return BAD;
        int was = told(stone, what);
        S s = w.stones.get(stone);
        if (what == 1) s.who = v;
        if (what == 2) s.where = v;
        if (what == 3) s.what = v;
        if (what == 4) s.when = v;
        return was;
    }

    int undone(int stone) {
        if (!isStone(stone)) return BAD;
        if (w.stones.get(stone).done == null) return NO;
        w.stones.get(stone).done = null;
        return 1;
    }

    int person(int one, int what) {
        if (!in(one, 0, 5) || !in(what, 0, 1)) return BAD;
        return what == 0 ? w.at[one] : w.rank[one];
    }

    int sends(int one, int what, int v) {
        if (!in(one, 0, 5) || !in(what, 0, 1) || !in(v, 0, what == 0 ? 3 : 9)) return BAD;
        int was = person(one, what);
        (what == 0 ? w.at : w.rank)[one] = v;
        return was;
    }

    int at(int square) {
        if (!in(square, 0, 3)) return BAD;
        int set = 0;
        for (int i = 0; i < 6; i++) if (w.at[i] == square) set += 1 << i;
        return set;
    }

    int rule(int what, int v) {
        if (!in(what, 0, 1) || !in(v, 0, 100)) return BAD;
        int was = what == 0 ? w.moves : w.rises;
        if (what == 0) w.moves = v;
        else w.rises = v;
        return was;
    }

    int deal(int n) {
        if (!in(n, 1, 10)) return BAD;
        int came = 0;
        for (; came < n && w.stones.size() < 10; came++) {
            S s = new S();
            s.kind = w.draw() % 6;
            s.who = w.draw() % 6;
            s.where = w.draw() % 4;
            s.what = w.draw() % 10;
            s.when = w.year + w.draw() % 60;
            if (s.when > 9999) s.when = 9999;
            w.stones.add(s);
        }
        return came;
    }

    int seed(int v) {
        int was = w.z;
        w.z = v;
        return was;
    }

    int years(int n) {
        if (!in(n, 1, 100)) return BAD;
        int came = 0;
        while (n-- > 0 && w.year < 9999) came += w.year();
        return came;
    }

    int city(int what) {
        if (!in(what, 0, 5)) return BAD;
        if (what == 0) return w.cost;
        if (what == 1) return w.missed;
        if (what == 5) return w.ranks();
        int set = 0;
        for (int i = 0; i < w.stones.size(); i++) {
            S s = w.stones.get(i);
            if (what == 2 ? s.done != null : what == 3 ? w.open(s) : w.holds(s)) set |= 1 << i;
        }
        return set;
    }

    int bestCount;
    int[] bestAt;

    void place(W v, int one, List<S> looked) {
        if (one == 6) {
            int n = 0;
            for (S s : looked) if (v.holds(s)) n++;
            if (n > bestCount) {
                bestCount = n;
                bestAt = v.at.clone();
            }
            return;
        }
        for (int sq = 0; sq < 4; sq++) {
            v.at[one] = sq;
            place(v, one + 1, looked);
        }
    }

    int together(int what) {
        if (!in(what, -1, 5)) return BAD;
        List<S> looked = new ArrayList<>();
        for (S s : w.stones) if (w.open(s)) looked.add(s);
        bestCount = -1;
        place(w.twin(), 0, looked);
        return what == -1 ? bestCount : bestAt[what];
    }

    int clash(int one, int other) {
        if (!isStone(one) || !isStone(other) || one == other) return BAD;
        bestCount = -1;
        place(w.twin(), 0, List.of(w.stones.get(one), w.stones.get(other)));
        return bestCount == 2 ? 0 : 1;
    }

    int behind(int n, int what) {
        if (!in(n, 0, 100) || !in(what, 0, 8)) return BAD;
        W v = w.twin().later(n);
        return what == 0 ? v.fulfilled() : what == 1 ? v.missed : what == 2 ? v.cost : v.rank[what - 3];
    }

    int fulfils(int stone) {
        if (!isStone(stone)) return BAD;
        W v = w.twin();
        for (int k = 0; k <= 200; k++) {
            if (v.stones.get(stone).done != null) return k;
            v.year();
        }
        return NONE;
    }

    int sent(int n, int what) {
        if (!in(n, 1, 30) || !in(what, 0, 2)) return BAD;
        int[] best = {0, 0, -1};
        for (int one = 0; one < 6; one++) {
            for (int sq = 0; sq < 4; sq++) {
                W v = w.twin();
                v.at[one] = sq;
                int f = v.later(n).fulfilled();
                if (f > best[2]) best = new int[] {one, sq, f};
            }
        }
        return best[what];
    }

    int raised(int n, int what) {
        if (!in(n, 1, 60) || !in(what, 0, 1)) return BAD;
        int[] best = {0, -1};
        for (int one = 0; one < 6; one++) {
            W v = w.twin();
            if (v.rank[one] < 9) v.rank[one]++;
            int f = v.later(n).fulfilled();
            if (f > best[1]) best = new int[] {one, f};
        }
        return best[what];
    }

    int scrap(int n, int what) {
        if (!in(n, 1, 60) || !in(what, 0, 1)) return BAD;
        int[] best = {NONE, NONE};
        for (int i = 0; i < w.stones.size(); i++) {
            W v = w.twin();
            v.stones.get(i).scrapped = true;
            int c = v.later(n).cost;
            if (i == 0 || c < best[1]) best = new int[] {i, c};
        }
        return best[what];
    }

    int becomes(int stone, int n, int what) {
        if (!isStone(stone) || !in(n, 1, 60) || !in(what, 0, 1)) return BAD;
        int[] best = {0, -1};
        for (int kind = 0; kind < 6; kind++) {
            W v = w.twin();
            v.stones.get(stone).kind = kind;
            int f = v.later(n).fulfilled();
            if (f > best[1]) best = new int[] {kind, f};
        }
        return best[what];
    }

    int latest(int stone) {
        if (!isStone(stone)) return BAD;
        if (w.stones.get(stone).done != null) return NO;
        for (int when = w.year; when <= w.year + 60; when++) {
            W v = w.twin();
            v.stones.get(stone).when = when;
            if (v.later(61).stones.get(stone).done != null) return when;
        }
        return NONE;
    }

    int whose(int sheet, int what) {
        if (!in(sheet, 0, 3) || !in(what, 0, 1)) return BAD;
        if (sheets[sheet] == null) return NOTHING;
        int[] best = {0, Integer.MAX_VALUE};
        for (int one = 0; one < 6; one++) {
            int d = 0;
            for (int k = 0; k < sheets[sheet].v.length; k++) {
                if (sheets[sheet].v[k] != null) d += Math.abs(behind(k, 3 + one) - sheets[sheet].v[k]);
            }
            if (d < best[1]) best = new int[] {one, d};
        }
        return best[what];
    }

    int fee() {
        T t = w.law(1);
        return t == null ? w.cost : work(t, w.cost, w.missed, 0);
    }

    int fine(int stone) {
        if (!isStone(stone)) return BAD;
        S s = w.stones.get(stone);
        T t = w.law(2);
        return t == null ? s.when : work(t, s.when, w.rank[s.who], 0);
    }

    int feed(int a, int b, int c) {
        if (tape.size() > 84) return FULL;
        for (int v : new int[] {a, b, c}) {
            for (int k = 3; k >= 0; k--) tape.add(v >> 8 * k & 0xff);
        }
        return tape.size();
    }

    int trim(int n) {
        if (!in(n, 0, tape.size())) return BAD;
        while (tape.size() > n) tape.remove(tape.size() - 1);
        return n;
    }

    static final String[] KEYS = {"cost", "fee", "fine"}, NAMES = {"wyl", "cm", "wr"};

    int text() {
        StringBuilder b = new StringBuilder();
        for (int v : tape) b.append((char) v);
        tape.clear();
        T t = new T();
        int fault = read(b.toString(), t);
        if (fault >= 0) return -100 - fault;
        if (w.texts.size() == 14) return FULL;
        w.texts.add(t);
        return w.texts.size() - 1;
    }

    static int strength(char sign) {
        return "|".indexOf(sign) >= 0 ? 1 : "&".indexOf(sign) >= 0 ? 2 : "<=>".indexOf(sign) >= 0 ? 3
            : "+-".indexOf(sign) >= 0 ? 4 : "*/".indexOf(sign) >= 0 ? 5 : sign == '!' ? 6 : 0;
    }

    static boolean letter(char c) {
        return c >= 'a' && c <= 'z';
    }

    static boolean digit(char c) {
        return c >= '0' && c <= '9';
    }

    /** A machine of states: a piece is awaited or stands; signs that are open wait on a stack. -1, or the FAULT. */
    static int read(String s, T t) {
        t.rpn = new ArrayList<>();
        t.key = -1;
        List<Character> open = new ArrayList<>();
        List<Boolean> tested = new ArrayList<>();
        tested.add(false);
        boolean awaits = true;
        int i = 0, lastWordEnd = -1;
        while (true) {
            while (i < s.length() && s.charAt(i) == ' ') i++;
            if (i == s.length()) {
                pop(open, t, 1);
                return t.key < 0 || awaits || open.contains('(') ? i : -1;
            }
            int from = i;
            char c = s.charAt(i++);
            boolean word = letter(c) || digit(c);
            if (letter(c)) while (i < s.length() && letter(s.charAt(i))) i++;
            if (digit(c)) while (i < s.length() && digit(s.charAt(i))) i++;
            String tok = s.substring(from, i);
            if (word && lastWordEnd == from) return from;
            if (word) lastWordEnd = i;
            if (t.key < 0) {
                for (int k = 0; k < 3; k++) if (KEYS[k].equals(tok)) t.key = k;
                if (t.key < 0) return from;
            } else if (awaits) {
                if (c == '!' || c == '(') {
                    int same = 0;
                    for (char o : open) if (o == c) same++;
                    if (same == 8) return from;
                    open.add(c);
                    if (c == '(') tested.add(false);
                } else {
                    boolean number = digit(c) && tok.length() <= 4;
                    boolean name = tok.length() == 1 && letter(c) && NAMES[t.key].contains(tok);
                    if (!number && !name) return from;
                    t.leaves++;
                    t.rpn.add(name ? "n" + NAMES[t.key].indexOf(tok) : tok);
                    pop(open, t, 6);
                    awaits = false;
                }
            } else if (c == ')') {
                pop(open, t, 1);
                if (open.isEmpty()) return from;
                open.remove(open.size() - 1);
                tested.remove(tested.size() - 1);
                pop(open, t, 6);
            } else {
                int p = word ? 0 : strength(c);
                if (p == 0 || p == 6) return from;
                if (p == 3 && tested.get(tested.size() - 1)) return from;
                if (p <= 3) tested.set(tested.size() - 1, p == 3);
                pop(open, t, p);
                open.add(c);
                awaits = true;
            }
        }
    }

    static void pop(List<Character> open, T t, int strength) {
        while (!open.isEmpty() && strength(open.get(open.size() - 1)) >= strength) {
            t.rpn.add(String.valueOf(open.remove(open.size() - 1)));
        }
    }

    static int work(T t, int a, int b, int c) {
        List<Integer> st = new ArrayList<>();
        for (String s : t.rpn) {
            if (digit(s.charAt(0))) st.add(Integer.parseInt(s));
            else if (s.charAt(0) == 'n') st.add(s.equals("n0") ? a : s.equals("n1") ? b : c);
            else if (s.equals("!")) st.add(st.remove(st.size() - 1) == 0 ? 1 : 0);
            else {
                int r = st.remove(st.size() - 1), l = st.remove(st.size() - 1);
                int v;
                switch (s.charAt(0)) {
                    case '|': v = (l != 0 | r != 0) ? 1 : 0; break;
                    case '&': v = (l != 0 & r != 0) ? 1 : 0; break;
                    case '<': v = l < r ? 1 : 0; break;
                    case '=': v = l == r ? 1 : 0; break;
                    case '>': v = l > r ? 1 : 0; break;
                    case '+': v = l + r; break;
                    case '-': v = l - r; break;
                    case '*': v = l * r; break;
                    default: v = r == 0 ? 0 : l / r;
                }
                st.add(v);
            }
        }
        if (st.size() != 1) throw new IllegalStateException("the oracle's own stack: " + t.rpn);
        return st.get(0);
    }

    int textTold(int text, int what) {
        if (!in(text, 0, w.texts.size() - 1) || !in(what, 0, 1)) return BAD;
        return what == 0 ? w.texts.get(text).key : w.texts.get(text).leaves;
    }

    int why(int key) {
        if (!in(key, 0, 2)) return BAD;
        int last = NONE;
        for (int i = 0; i < w.texts.size(); i++) if (w.texts.get(i).key == key) last = i;
        return last;
    }

    int sheet(int sheet, int sort, int n) {
        if (!in(sheet, 0, 3) || !in(sort, -1, 1)) return BAD;
        if (sort == -1) {
            sheets[sheet] = null;
            return 0;
        }
        if (n > 24) return BAD;
        if (n < 0) return SIZE;
        Row r = new Row();
        r.sort = sort;
        r.v = new Integer[n];
        for (int i = 0; i < n; i++) r.v[i] = 0;
        sheets[sheet] = r;
        return n;
    }

    int mark(int sheet, int place, int v) {
        if (!in(sheet, 0, 3)) return BAD;
        Row r = sheets[sheet];
        if (r == null) return NOTHING;
        if (!in(place, 0, r.v.length - 1)) return INDEX;
        if (r.sort == 0) {
            if (v == NONE) return KIND;
            int low = v & 0xffff;
            r.v[place] = low >= 32768 ? low - 65536 : low;
            return 1;
        }
        if (v != NONE && !in(v, -99999, 99999)) return BAD;
        r.v[place] = v == NONE ? null : Integer.valueOf(v);
        return 1;
    }

    int pour(int sheet) {
        if (!in(sheet, 0, 3)) return BAD;
        Row r = sheets[sheet];
        if (r == null) return NOTHING;
        int n = 0;
        for (int i = 0; i < 6 && i < r.v.length; i++) {
            if (r.v[i] == null) continue;
            int v = r.v[i] < 0 ? 0 : r.v[i] > 9 ? 9 : r.v[i];
            if (v != w.rank[i]) n++;
            w.rank[i] = v;
        }
        return n;
    }

    int reads(int sheet) {
        if (!in(sheet, 0, 3)) return BAD;
        Row r = sheets[sheet];
        if (r == null) return NOTHING;
        for (int i = 0; i < r.v.length; i++) {
            if (r.v[i] != null && (i >= 6 || r.v[i] != w.at[i])) return i;
        }
        return NONE;
    }

    int copy(int from, int place, int to, int at, int many) {
        if (!in(from, 0, 3) || !in(to, 0, 3)) return BAD;
        if (sheets[from] == null || sheets[to] == null) return NOTHING;
        if (sheets[from].sort != sheets[to].sort) return KIND;
        try {
            System.arraycopy(sheets[from].v, place, sheets[to].v, at, many);
        } catch (IndexOutOfBoundsException e) {
            return INDEX;
        }
        return many;
    }

    int held(int slot) {
        Object o = slots[slot];
        return o == null ? 0 : o instanceof S ? 1 : o instanceof Row ? 2 : 3;
    }

    int lay(int slot, int thing, int k) {
        if (!in(slot, 0, 4) || !in(thing, 0, 3)) return BAD;
        if (thing == 1 && !isStone(k) || thing == 2 && !in(k, 0, 3)) return BAD;
        if (thing == 2 && sheets[k] == null) return NOTHING;
        int was = held(slot);
        if (thing == 0) slots[slot] = null;
        if (thing == 1) slots[slot] = w.stones.get(k).twin();
        if (thing == 3) slots[slot] = k;
        if (thing == 2) {
            Row r = new Row();
            r.sort = sheets[k].sort;
            r.v = sheets[k].v.clone();
            slots[slot] = r;
        }
        return was;
    }

    int ask(int slot, int kind) {
        if (!in(slot, 0, 4) || !in(kind, 0, 5)) return BAD;
        if (held(slot) == 0) return NOTHING;
        if (held(slot) != 1) return KIND;
        S s = (S) slots[slot];
        return under(s.kind, kind) ? w.worthAs(s.kind, s) : KIND;
    }

    int item(int slot, int place) {
        if (!in(slot, 0, 4)) return BAD;
        if (held(slot) == 0) return NOTHING;
        if (held(slot) != 2) return KIND;
        Row r = (Row) slots[slot];
        if (!in(place, 0, r.v.length - 1)) return INDEX;
        return r.v[place] == null ? KIND : r.v[place];
    }

    int rest(int slot, int n) {
        if (!in(slot, 0, 4)) return BAD;
        if (held(slot) == 0) return NOTHING;
        if (held(slot) != 3) return KIND;
        if (n == 0) return NO;
        long v = (Integer) slots[slot];
        return (int) (v - v / n * n);
    }

    int tell(int v) {
        if (waiting.size() == 60) return FULL;
        waiting.add(v);
        return waiting.size();
    }

    int check(int n) {
        List<Integer> given = waiting;
        waiting = new ArrayList<>();
        if (!in(n, 1, 30)) return BAD;
        if (image == null) return NO;
        List<Integer> due = new ArrayList<>();
        W v = image.twin();
        for (int i = 0; i < n && v.year < 9999; i++) {
            v.year();
            due.add(v.cost);
            due.add(v.ranks());
        }
        int same = 0;
        while (same < given.size() && same < due.size() && given.get(same).equals(due.get(same))) same++;
        return same == given.size() && same == due.size() ? 0 : 1 + same;
    }

    int keep() {
        image = w.twin();
        return image.stones.size();
    }

    int back() {
        if (image == null) return NO;
        w = image.twin();
        return w.stones.size();
    }

    int count(int what) {
        if (!in(what, 0, 7)) return BAD;
        return new int[] {w.stones.size(), w.year, w.moves, w.rises, w.texts.size(), waiting.size(), tape.size(), w.z}[what];
    }
}
