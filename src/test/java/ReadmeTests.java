import java.lang.reflect.Field;
import java.lang.reflect.Method;
import java.lang.reflect.Modifier;
import java.nio.file.Files;
import java.nio.file.Path;
import java.util.regex.Matcher;
import java.util.regex.Pattern;

/** README.md: the calls of its example are answered as it says, and it names every call and every constant of the face. */
public final class ReadmeTests extends Checks {
    public static void main(String[] args) throws Exception {
        String page = Files.readString(Path.of("README.md"));
        example(page);
        names(page);
        end();
    }

    private static void example(String page) throws Exception {
        int from = page.indexOf("```java");
        String block = page.substring(from, page.indexOf("```", from + 7));
        Matcher calls = Pattern.compile("(?m)^x\\.(\\w+)\\((.*?)\\); *// (-?\\d+|[A-Z]+)\\b").matcher(block);
        StonesToCome x = new StonesToCome();
        int seen = 0;
        while (calls.find()) {
            int[] numbers = numbers(calls.group(2));
            due(0, "README: " + shown(calls.group(1), numbers), call(x, calls.group(1), numbers), answer(calls.group(3)));
            seen++;
        }
        due(0, "README: calls of the example", seen, (int) block.lines().filter(s -> s.startsWith("x.")).count());
    }

    private static int[] numbers(String list) {
        if (list.isBlank()) return new int[0];
        String[] parts = list.split(", *");
        int[] all = new int[parts.length];
        for (int i = 0; i < all.length; i++) all[i] = Integer.decode(parts[i]);
        return all;
    }

    private static int answer(String word) throws Exception {
        return Character.isLetter(word.charAt(0)) ? StonesToCome.class.getField(word).getInt(null) : Integer.parseInt(word);
    }

    private static void names(String page) {
        String answers = page.substring(page.indexOf("## What the calls answer"), page.indexOf("## Refusals"));
        String refusals = page.substring(page.indexOf("## Refusals"), page.indexOf("## Tests"));
        for (Method m : StonesToCome.class.getDeclaredMethods()) {
            if (!Modifier.isPublic(m.getModifiers())) continue;
            boolean told = Pattern.compile("(?m)^\\|[^|]*`" + m.getName() + "[`(]").matcher(answers).find();
            due(0, "README: what it answers is told of " + m.getName(), told ? 1 : 0, 1);
        }
        for (Field f : StonesToCome.class.getFields()) {
            due(0, "README: what it says is told of " + f.getName(), refusals.contains("`" + f.getName() + "`") ? 1 : 0, 1);
        }
    }
}
