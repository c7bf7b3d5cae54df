import java.lang.reflect.Method;
import java.lang.reflect.Modifier;
import java.util.ArrayList;
import java.util.List;
import java.util.Map;
import java.util.TreeMap;

/** What the tests share: asking for an answer, typing on THE TAPE, and looking at all that an object shows of itself. */
abstract class Checks {
    static final int BAD = -1000000001, NO = -1000000002, FULL = -1000000003, NONE = -1000000005,
            NOTHING = -1000000011, KIND = -1000000012, INDEX = -1000000013, SIZE = -1000000014;
    static final int MIN = Integer.MIN_VALUE, MAX = Integer.MAX_VALUE;
    private static final Map<String, Method> CALLS = new TreeMap<>();
    private static int wrong = 0;
    private static int asked = 0;

    static void due(int promise, String call, int got, int want) {
        asked++;
        if (got != want) {
            wrong++;
            System.out.println("promise " + promise + ": " + call + " answered " + got + ", due is " + want);
        }
    }

    /** All of them are answered so. */
    static void all(int promise, String calls, int want, int... got) {
        for (int i = 0; i < got.length; i++) due(promise, calls + " #" + i, got[i], want);
    }

    static void end() {
        System.out.println(asked + " answers asked for, " + wrong + " wrong");
        if (wrong != 0) System.exit(1);
    }

    // ---- calls by their names

    static int call(StonesToCome x, String name, int... args) {
        if (CALLS.isEmpty()) {
            for (Method m : StonesToCome.class.getDeclaredMethods()) {
                if (Modifier.isPublic(m.getModifiers())) CALLS.put(m.getName(), m);
            }
        }
        Object[] boxed = new Object[args.length];
        for (int i = 0; i < args.length; i++) boxed[i] = args[i];
        try {
            return (Integer) CALLS.get(name).invoke(x, boxed);
        } catch (ReflectiveOperationException e) {
            throw new IllegalStateException(shown(name, args), e);
        }
    }

    static String shown(String name, int... args) {
        StringBuilder b = new StringBuilder(name).append('(');
        for (int i = 0; i < args.length; i++) b.append(i == 0 ? "" : ", ").append(args[i]);
        return b.append(')').toString();
    }

    // ---- objects

    /** Nobody moves or rises by lot. */
    static StonesToCome still() {
        StonesToCome x = new StonesToCome();
        x.rule(0, 0);
        x.rule(1, 0);
        return x;
    }

    /** THE YEAR becomes this one, by calls of years(100) and one more. */
    static void goToYear(StonesToCome x, int year) {
        int left = year - x.count(1);
        for (; left > 0; left -= 100) x.years(Math.min(100, left));
    }

    /** The draws of the document. */
    static final class Lot {
        int z;

        Lot(int z) {
            this.z = z;
        }

        int rest(int n) {
            z = z * 1103515245 + 12345;
            return (z >>> 8) % n;
        }
    }

    // ---- THE TAPE

    /** THE TAPE becomes these bytes, 96 at most. */
    static void type(StonesToCome x, String s) {
        x.trim(0);
        for (int i = 0; i < s.length(); i += 12) {
            int[] three = new int[3];
            for (int k = 0; k < 12; k++) three[k / 4] = three[k / 4] << 8 | (i + k < s.length() ? s.charAt(i + k) : 0);
            x.feed(three[0], three[1], three[2]);
        }
        x.trim(s.length());
    }

    static int text(StonesToCome x, String s) {
        type(x, s);
        return x.text();
    }

    static int fault(String s) {
        return text(new StonesToCome(), s);
    }

    /** What a fee TEXT gives with COST 0 and MISSED 0. */
    static int gives(String e) {
        StonesToCome x = new StonesToCome();
        int told = text(x, "fee " + e);
        return told == 0 ? x.fee() : told;
    }

    // ---- all that an object shows

    private static void city(StonesToCome x, List<Integer> all) {
        int stones = x.count(0);
        int texts = x.count(4);
        for (int i = 0; i < 8; i++) if (i != 5 && i != 6) all.add(x.count(i));
        for (int s = 0; s < stones; s++) for (int i = 0; i < 6; i++) all.add(x.told(s, i));
        for (int one = 0; one < 6; one++) for (int i = 0; i < 2; i++) all.add(x.person(one, i));
        for (int i = 0; i < 6; i++) all.add(x.city(i));
        for (int square = 0; square < 4; square++) all.add(x.at(square));
        for (int t = 0; t < texts; t++) for (int i = 0; i < 2; i++) all.add(x.textTold(t, i));
        for (int key = 0; key < 3; key++) all.add(x.why(key));
        all.add(x.fee());
        for (int s = 0; s < stones && s < 2; s++) {
            all.add(x.told(s, 7));
            all.add(x.fine(s));
        }
    }

    private static void slot(StonesToCome x, int slot, List<Integer> all) {
        all.add(x.ask(slot, 0));
        for (int kind = 3; kind < 6; kind++) all.add(x.ask(slot, kind));
        all.add(x.rest(slot, 1000000));
        all.add(x.item(slot, -1));
        boolean isSheet = x.item(slot, -1) == INDEX;
        for (int place = 0, v = 0; isSheet && v != INDEX; place++) {
            v = x.item(slot, place);
            all.add(v);
        }
    }

    /**
     * All answers by which a change could be seen; takes some 400 calls, and the object is spent by it: first what tells
     * and changes nothing, then SHEETS by way of a SLOT, the numbers that wait by check, THE TAPE by text, THE IMAGE by back.
     */
    static List<Integer> shows(StonesToCome x) {
        List<Integer> all = new ArrayList<>();
        all.add(x.count(5));
        all.add(x.count(6));
        city(x, all);
        for (int slot = 0; slot < 5; slot++) slot(x, slot, all);
        for (int sheet = 0; sheet < 4; sheet++) {
            x.lay(0, 0, 0);
            all.add(x.lay(0, 2, sheet));
            slot(x, 0, all);
            all.add(sheet == 3 ? 0 : x.copy(sheet, 0, sheet + 1, 0, 0));
        }
        all.add(x.check(Math.max(1, Math.min(30, x.count(5) / 2))));
        int read = x.text();
        all.add(read);
        if (read >= 0) {
            all.add(x.fee());
            if (x.count(0) > 0) all.add(x.fine(0));
        }
        int kept = x.back();
        all.add(kept);
        if (kept >= 0) city(x, all);
        return all;
    }
}
