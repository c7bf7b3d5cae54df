import java.lang.reflect.Method;
import java.util.ArrayList;
import java.util.List;
import java.util.Random;
import java.util.TreeMap;

/** Runs of calls by lot (always the same ones), each answered by the program and by StonesOracle: the answers are the same. */
public final class OracleRuns {
    private static final int CALLS = 500;
    private static final int[] ODD = {-1, -2, 4, 5, 6, 8, 9, 10, 11, 24, 25, 30, 31, 60, 61, 100, 101, 9998, 9999, 10000,
        32767, 32768, 65535, 99999, 100000, -99999, -100000, Integer.MIN_VALUE, Integer.MAX_VALUE,
        StonesOracle.NONE, StonesOracle.BAD};

    private static final String[] ROWS = {"sheet", "copy", "lay", "lay", "lay", "ask", "ask", "item", "item", "rest", "whose", "pour", "reads"};
    private static final String[] THOUGHTS = {"together", "clash", "fulfils", "latest", "sent", "raised", "scrap", "becomes", "undone"};

    private final TreeMap<String, Method> program = new TreeMap<>();
    private final TreeMap<String, Method> oracle = new TreeMap<>();
    private final TreeMap<String, Integer> plainAnswers = new TreeMap<>();
    private Random random;
    private StonesToCome x;
    private StonesOracle y;
    private int calls;
    private int wrong = 0;
    private StringBuilder story;

    public static void main(String[] args) throws Exception {
        int runs = args.length > 0 ? Integer.parseInt(args[0]) : 240;
        int first = args.length > 1 ? Integer.parseInt(args[1]) : 0;
        OracleRuns all = new OracleRuns();
        for (int run = first; run < first + runs && all.wrong < 5; run++) all.run(run);
        for (String name : all.program.keySet()) {
            if (!all.plainAnswers.containsKey(name)) {
                all.wrong++;
                System.out.println(name + " was never answered but by a refusal");
            }
        }
        if (args.length > 2) System.out.println(all.plainAnswers);
        System.out.println(all.wrong == 0 ? "all answers are as the oracle's" : all.wrong + " answers are wrong");
        if (all.wrong != 0) System.exit(1);
    }

    private OracleRuns() throws Exception {
        for (Method m : StonesToCome.class.getDeclaredMethods()) {
            if (!java.lang.reflect.Modifier.isPublic(m.getModifiers())) continue;
            program.put(m.getName(), m);
            oracle.put(m.getName(), StonesOracle.class.getDeclaredMethod(m.getName(), m.getParameterTypes()));
        }
    }

    private void run(int number) throws Exception {
        random = new Random(number * 7919L + 5);
        x = new StonesToCome();
        y = new StonesOracle();
        calls = 0;
        story = new StringBuilder();
        int before = wrong;
        begin(number);
        while (calls < CALLS && wrong == before) step();
    }

    private void begin(int number) throws Exception {
        call("seed", random.nextInt());
        if (number % 4 == 1) for (int i = 0; i < 98 + random.nextInt(4); i++) call("years", 100);
        if (number % 4 == 2) {
            call("rule", 0, random.nextInt(101));
            call("rule", 1, random.nextInt(101));
        }
        if (number % 4 == 3) for (int i = 0; i < 14; i++) text(expression(3, random.nextInt(3)));
    }

    private int call(String name, int... args) throws Exception {
        Object[] boxed = new Object[args.length];
        for (int i = 0; i < args.length; i++) boxed[i] = args[i];
        int got = (Integer) program.get(name).invoke(x, boxed);
        int want = (Integer) oracle.get(name).invoke(y, boxed);
        calls++;
        story.append(name).append(java.util.Arrays.toString(args)).append(" = ").append(got).append('\n');
        if (want > -1000000000) plainAnswers.merge(name, 1, Integer::sum);
        if (got != want) {
            wrong++;
            System.out.println(story + "   but due is " + want);
        }
        return got;
    }

    private void step() throws Exception {
        switch (random.nextInt(14)) {
            case 0:
                text(text());
                break;
            case 1:
                if (random.nextInt(3) == 0) rows();
                break;
            case 4:
            case 5:
                any(ROWS[random.nextInt(ROWS.length)]);
                break;
            case 6:
                any(THOUGHTS[random.nextInt(THOUGHTS.length)]);
                break;
            case 2:
                call("stone", lot(6), lot(6), lot(4), lot(10), when());
                break;
            case 3:
                call("mark", lot(4), lot(random.nextBoolean() ? 6 : 24), random.nextInt(4) == 0 ? StonesOracle.NONE : lot(10));
                break;
            default:
                List<String> names = new ArrayList<>(program.keySet());
                any(names.get(random.nextInt(names.size())));
                break;
        }
    }

    private int when() {
        return Math.min(10000, Math.max(0, y.w.year - 3) + random.nextInt(70));
    }

    private int lot(int n) {
        return random.nextInt(25) == 0 ? ODD[random.nextInt(ODD.length)] : random.nextInt(n);
    }

    private void any(String name) throws Exception {
        int[] ranges = ranges(name);
        int[] args = new int[ranges.length];
        for (int i = 0; i < args.length; i++) args[i] = ranges[i] < 0 ? lot(-ranges[i]) + 1 : lot(ranges[i]);
        if (name.equals("together")) args[0] -= 1;
        if (name.equals("set") && args[1] == 4) args[2] = when();
        if (name.equals("sheet") && random.nextInt(8) == 0) args[1] = -1;
        if (name.equals("sheet") && args[0] == 0) args[1] = 0;
        if (name.equals("lay") && args[1] == 3) args[2] = random.nextInt();
        if (name.equals("rest") && random.nextInt(3) == 0) args[1] = random.nextInt(40) - 20;
        if (name.equals("feed") || name.equals("seed")) for (int i = 0; i < args.length; i++) args[i] = random.nextInt();
        if (name.equals("years") && random.nextInt(3) != 0) args[0] = random.nextInt(6);
        if (name.equals("back") && random.nextInt(2) == 0) return;
        call(name, args);
    }

    /** How many values each argument has, from 0 on; with a minus: from 1 on. */
    private static int[] ranges(String name) {
        switch (name) {
            case "stone": return new int[] {6, 6, 4, 10, 100};
            case "told": return new int[] {10, 9};
            case "as": case "turns": return new int[] {10, 6};
            case "set": return new int[] {10, -4, 6};
            case "person": return new int[] {6, 2};
            case "sends": return new int[] {6, 2, 6};
            case "at": return new int[] {4};
            case "rule": return new int[] {2, 101};
            case "deal": return new int[] {-4};
            case "years": return new int[] {-100};
            case "city": return new int[] {6};
            case "together": return new int[] {7};
            case "clash": return new int[] {10, 10};
            case "behind": return new int[] {101, 9};
            case "sent": return new int[] {-30, 3};
            case "raised": case "scrap": return new int[] {-60, 2};
            case "becomes": return new int[] {10, -60, 2};
            case "whose": return new int[] {4, 2};
            case "undone": case "fulfils": case "latest": case "fine": return new int[] {10};
            case "feed": return new int[] {1, 1, 1};
            case "trim": return new int[] {97};
            case "textTold": return new int[] {14, 2};
            case "why": return new int[] {3};
            case "sheet": return new int[] {4, 2, 25};
            case "mark": return new int[] {4, 24, 10};
            case "pour": case "reads": return new int[] {4};
            case "copy": return new int[] {4, 8, 4, 8, 10};
            case "lay": return new int[] {5, 4, 4};
            case "ask": return new int[] {5, 6};
            case "item": return new int[] {5, 8};
            case "rest": return new int[] {5, 30};
            case "seed": case "tell": return new int[] {1000};
            case "check": return new int[] {-30};
            case "count": return new int[] {8};
            default: return new int[0];
        }
    }

    private void rows() throws Exception {
        if (y.image == null || random.nextInt(3) == 0) call("keep");
        int n = 1 + random.nextInt(random.nextInt(4) == 0 ? 30 : 6);
        StonesOracle.W v = y.image.twin();
        List<Integer> due = new ArrayList<>();
        for (int i = 0; i < n && v.year < 9999; i++) {
            v.year();
            due.add(v.cost);
            due.add(v.ranks());
        }
        int change = random.nextInt(6);
        if (change == 0 && !due.isEmpty()) due.set(random.nextInt(due.size()), random.nextInt(50));
        if (change == 1 && !due.isEmpty()) due.remove(due.size() - 1);
        if (change == 2) due.add(random.nextInt(50));
        for (int i : due) call("tell", i);
        call("check", n);
    }

    private void text(String text) throws Exception {
        if (random.nextInt(10) != 0) call("trim", 0);
        int left = text.length();
        for (int i = 0; i < text.length() && y.tape.size() <= 84; i += 12) {
            int[] three = new int[3];
            for (int k = 0; k < 12; k++) {
                int b = i + k < text.length() ? text.charAt(i + k) : random.nextInt(256);
                three[k / 4] = three[k / 4] << 8 | b;
            }
            call("feed", three[0], three[1], three[2]);
            left -= 12;
        }
        if (left < 0) call("trim", y.tape.size() + left);
        call("text");
        int of = y.w.texts.size() - 1;
        call("textTold", of, random.nextInt(2));
        call(random.nextBoolean() ? "fee" : "keep");
        call("told", lot(10), 7);
        call("fine", lot(10));
    }

    private String text() {
        String s = expression(1 + random.nextInt(5), random.nextInt(3));
        if (random.nextInt(6) == 0) s = deep();
        if (random.nextInt(3) == 0 && !s.isEmpty()) {
            int at = random.nextInt(s.length());
            String signs = "|&<=>+-*/!()0123456789wylcmr \tA~";
            char c = random.nextInt(8) == 0 ? (char) random.nextInt(256) : signs.charAt(random.nextInt(signs.length()));
            int kind = random.nextInt(3);
            s = s.substring(0, at) + (kind == 0 ? "" : c) + s.substring(kind == 2 ? at : at + 1);
        }
        return s.length() > 96 ? s.substring(0, random.nextInt(97)) : s;
    }

    private String deep() {
        StringBuilder b = new StringBuilder("fine ");
        int open = 0;
        for (int i = 0; i < 6 + random.nextInt(16); i++) {
            boolean not = random.nextBoolean();
            b.append(not ? '!' : '(');
            open += not ? 0 : 1;
        }
        b.append('w');
        for (int i = 0; i < open; i++) b.append(')');
        return b.toString();
    }

    private String blank() {
        return random.nextInt(4) == 0 ? "  ".substring(random.nextInt(2)) : "";
    }

    private String expression(int depth, int key) {
        String k = StonesOracle.KEYS[key];
        String e = level(0, depth, key);
        boolean needs = StonesOracle.digit(e.charAt(0)) || StonesOracle.letter(e.charAt(0));
        return blank() + k + (needs && random.nextInt(12) != 0 ? " " : "") + blank() + e + blank();
    }

    private String level(int level, int depth, int key) {
        if (level == 5) return blank() + piece(depth, key) + blank();
        String signs = new String[] {"|", "&", "<=>", "+-", "*/"}[level];
        StringBuilder b = new StringBuilder(level(level + 1, depth, key));
        int more = random.nextInt(level >= 3 ? 2 : 6) == 0 ? 1 + random.nextInt(2) : 0;
        if (level == 2 && random.nextInt(8) != 0) more = Math.min(1, more);
        for (int i = 0; i < more; i++) b.append(signs.charAt(random.nextInt(signs.length()))).append(level(level + 1, depth - 1, key));
        return b.toString();
    }

    private String piece(int depth, int key) {
        int way = random.nextInt(depth > 0 ? 7 : 4);
        String names = StonesOracle.NAMES[key];
        if (way < 2) return String.valueOf(random.nextInt(random.nextInt(12) == 0 ? 40000 : random.nextBoolean() ? 12 : 3000));
        if (way < 4) return String.valueOf(names.charAt(random.nextInt(names.length())));
        return way == 4 ? "!" + blank() + piece(depth - 1, key) : "(" + level(0, depth - 1, key) + ")";
    }
}
