import java.lang.reflect.Constructor;
import java.lang.reflect.Field;
import java.lang.reflect.Method;
import java.lang.reflect.Modifier;
import java.nio.charset.StandardCharsets;
import java.nio.file.Files;
import java.nio.file.Path;
import java.util.ArrayList;
import java.util.Arrays;
import java.util.List;
import java.util.Set;
import java.util.TreeSet;
import java.util.regex.Matcher;
import java.util.regex.Pattern;

/** The rules of LANGUAGE.md that can be seen from the file and the class, the document's face, and the room that calls take. */
public final class RuleTests {
    private static final Path SOURCE = Path.of("src/main/java/StonesToCome.java");
    private static final Path DOCUMENT = Path.of("../shared/DOC.md");
    private static int wrong = 0;

    private static void must(boolean holds, String what) {
        if (!holds) {
            wrong++;
            System.out.println("broken: " + what);
        }
    }

    public static void main(String[] args) throws Exception {
        String raw = Files.readString(SOURCE, StandardCharsets.ISO_8859_1);
        String code = withoutCommentsAndTexts(raw);
        words(raw, code);
        lengths(code);
        face();
        classes();
        room();
        System.out.println(wrong == 0 ? "all rules are kept" : wrong + " rules are broken");
        if (wrong != 0) System.exit(1);
    }

    private static String withoutCommentsAndTexts(String s) {
        Pattern p = Pattern.compile("/\\*.*?\\*/|//[^\n]*|\"[^\"\n]*\"|'(\\\\.|[^'])'", Pattern.DOTALL);
        Matcher m = p.matcher(s);
        StringBuilder b = new StringBuilder();
        while (m.find()) {
            String kept = m.group().replaceAll("[^\n]", "");
            m.appendReplacement(b, m.group().startsWith("\"") ? "TEXT" : m.group().startsWith("'") ? "0" : kept);
        }
        return m.appendTail(b).toString();
    }

    private static void words(String raw, String code) {
        for (char c : raw.toCharArray()) must(c >= 1 && c <= 127, "a sign beyond 127");
        for (String word : List.of("throw", "throws", "try", "catch", "finally", "synchronized", "assert", "package", "Object",
                "System.out", "Random", "Thread", "hashCode", "toString", "var", "double", "float", "protected")) {
            must(!Pattern.compile("\\b" + Pattern.quote(word) + "\\b").matcher(code).find(), "the word " + word);
        }
        for (String sign : List.of("->", "::", "Exact", "TEXT +", "+ TEXT", "static {", "instanceof Integer")) {
            must(!code.contains(sign), "the sign " + sign);
        }
        must(!Pattern.compile("new \\w+\\([^;]*\\)\\s*\\{").matcher(code).find(), "an anonymous class");
        Matcher imports = Pattern.compile("import ([\\w.*]+);").matcher(code);
        while (imports.find()) {
            must(Set.of("java.util.Arrays", "java.util.ArrayList", "java.util.List").contains(imports.group(1)), imports.group());
        }
        Matcher calls = Pattern.compile("\\b(Arrays|System|Math|Integer|Long)\\.(\\w+)").matcher(code);
        Set<String> known = Set.of("Arrays.copyOf", "Arrays.copyOfRange", "Arrays.fill", "System.arraycopy", "Math.max", "Math.min",
            "Math.abs", "Integer.bitCount");
        while (calls.find()) must(known.contains(calls.group()), "the library's " + calls.group());
    }

    private static void lengths(String code) {
        String[] lines = code.split("\n", -1);
        for (int i = 0; i < lines.length; i++) {
            Matcher m = Pattern.compile("^( {4}| {8})(?!.*\\bclass\\b)\\S.*\\{$").matcher(lines[i]);
            if (!m.find()) continue;
            int end = i;
            while (end < lines.length && !lines[end].equals(m.group(1) + "}")) end++;
            must(end < lines.length && end - i <= 60, "a method of more than sixty lines: " + lines[i].trim());
        }
    }

    private static void face() throws Exception {
        String doc = Files.readString(DOCUMENT);
        String block = doc.substring(doc.indexOf("public final class StonesToCome {"), doc.indexOf("## Terms"));
        Set<String> due = new TreeSet<>();
        Matcher methods = Pattern.compile("public int (\\w+)\\(([^)]*)\\);").matcher(block);
        while (methods.find()) {
            due.add(methods.group(1) + "/" + (methods.group(2).isBlank() ? 0 : methods.group(2).split(",").length));
        }
        Set<String> found = new TreeSet<>();
        Set<String> names = new TreeSet<>();
        for (Method m : StonesToCome.class.getDeclaredMethods()) {
            if (Modifier.isPrivate(m.getModifiers())) continue;
            must(Modifier.isPublic(m.getModifiers()) && !Modifier.isStatic(m.getModifiers()), "a member of the face: " + m);
            must(m.getReturnType() == int.class, "an int is answered: " + m);
            for (Class<?> c : m.getParameterTypes()) must(c == int.class, "ints are taken: " + m);
            found.add(m.getName() + "/" + m.getParameterCount());
            names.add(m.getName());
        }
        must(due.size() == 45 && due.equals(found), "the methods of the face: " + due + " are due, there are " + found);
        Matcher constants = Pattern.compile("(\\w+) = (-\\d+)").matcher(block);
        Set<String> fields = new TreeSet<>();
        while (constants.find()) {
            Field f = StonesToCome.class.getDeclaredField(constants.group(1));
            must(Modifier.toString(f.getModifiers()).equals("public static final"), "public static final: " + f);
            must(f.getInt(null) == Integer.parseInt(constants.group(2)), "the constant " + f);
            fields.add(f.getName());
        }
        for (Field f : StonesToCome.class.getDeclaredFields()) {
            must(fields.contains(f.getName()) || Modifier.isPrivate(f.getModifiers()), "private: " + f);
        }
        Constructor<?>[] makers = StonesToCome.class.getDeclaredConstructors();
        must(makers.length == 1 && Modifier.isPublic(makers[0].getModifiers()) && makers[0].getParameterCount() == 0, "the constructor");
        must(Modifier.toString(StonesToCome.class.getModifiers()).equals("public final"), "public final");
        for (Class<?> c : StonesToCome.class.getDeclaredClasses()) {
            for (Method m : c.getDeclaredMethods()) must(!names.contains(m.getName()), "the name of a public method: " + m);
        }
        for (Method m : StonesToCome.class.getDeclaredMethods()) {
            must(!Modifier.isPrivate(m.getModifiers()) || !names.contains(m.getName()), "the name of a public method: " + m);
        }
    }

    private static void classes() {
        List<Class<?>> all = new ArrayList<>(Arrays.asList(StonesToCome.class.getDeclaredClasses()));
        for (Class<?> c : all) {
            must(Modifier.isStatic(c.getModifiers()) && !Modifier.isPublic(c.getModifiers()), "static, and not public: " + c);
            must(c.getDeclaredClasses().length == 0, "no classes inside: " + c);
        }
        all.add(StonesToCome.class);
        must(all.size() <= 12, "twelve classes at most");
        Set<Class<?>> constants = Set.of(int.class, long.class, boolean.class, char.class, String.class, int[].class, long[].class,
            char[].class, byte[].class);
        for (Class<?> c : all) {
            int own = 0;
            for (Field f : c.getDeclaredFields()) {
                boolean isStatic = Modifier.isStatic(f.getModifiers());
                own += isStatic ? 0 : 1;
                must(!isStatic || Modifier.isFinal(f.getModifiers()) && constants.contains(f.getType()), "a constant: " + f);
            }
            must(own <= 20, "twenty fields at most: " + c);
            for (Method m : c.getDeclaredMethods()) must(m.getParameterCount() <= 7, "seven parameters at most: " + m);
        }
    }

    private static long allocated() {
        return ((com.sun.management.ThreadMXBean) java.lang.management.ManagementFactory.getThreadMXBean())
            .getThreadAllocatedBytes(Thread.currentThread().getId());
    }

    /** Thoughts make nothing; a new object and a TEXT stay small. */
    private static void room() {
        use(new StonesToCome());
        long first = allocated();
        StonesToCome x = new StonesToCome();
        long made = allocated() - first;
        must(made < 16000, "a new object takes " + made + " bytes");
        first = allocated();
        use(x);
        long used = allocated() - first;
        must(used < 4000, "all calls but text() take " + used + " bytes");
        first = allocated();
        for (int i = 0; i < 40; i++) {
            for (int k = 0; k < 8; k++) x.feed(0x66656520, 0x31322a33, 0x20202020);
            x.trim(8);
            x.text();
        }
        long read = allocated() - first;
        must(read < 40 * 1000, "forty TEXTS take " + read + " bytes");
    }

    private static void use(StonesToCome x) {
        x.deal(10);
        x.keep();
        x.sheet(0, 0, 24);
        for (int i = 0; i < 30; i++) {
            x.years(3);
            x.sent(30, 2);
            x.raised(60, 1);
            x.scrap(60, 1);
            x.becomes(0, 60, 1);
            x.together(-1);
            x.clash(0, 1);
            x.behind(100, 2);
            x.fulfils(3);
            x.latest(3);
            x.whose(0, 1);
            x.lay(i % 5, 1 + i % 2, 0);
            x.check(30);
            x.back();
            x.copy(0, 0, 0, 1, 20);
            x.pour(0);
        }
    }
}
