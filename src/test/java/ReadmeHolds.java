import java.lang.reflect.Method;
import java.lang.reflect.Modifier;
import java.nio.file.Files;
import java.nio.file.Path;
import java.util.TreeSet;
import java.util.regex.Matcher;
import java.util.regex.Pattern;

/** What README.md shows of the class: each call of its example answers so, and its table names every call. */
public final class ReadmeHolds {
    private static final Pattern SHOWN = Pattern.compile("^x\\.(\\w+)\\(([^)]*)\\); +// (-?\\d+)(:.*)?$");
    private static final Pattern ROW = Pattern.compile("(?m)^\\| `(\\w+)\\(([^)]*)\\)` \\|");
    private static int wrong = 0;

    private static void say(String what) {
        wrong++;
        System.out.println(what);
    }

    private static String exampleOf(String readme) {
        int from = readme.indexOf("```java\n");
        int to = from < 0 ? -1 : readme.indexOf("\n```", from);
        return to < 0 ? "" : readme.substring(from + "```java\n".length(), to);
    }

    private static Method named(String name) {
        for (Method m : SealedBox.class.getDeclaredMethods()) {
            if (Modifier.isPublic(m.getModifiers()) && m.getName().equals(name)) return m;
        }
        return null;
    }

    private static long answer(SealedBox x, Method call, String numbers) throws Exception {
        String[] words = numbers.isEmpty() ? new String[0] : numbers.split(", ");
        Object[] arguments = new Object[words.length];
        for (int i = 0; i < words.length; i++) arguments[i] = Integer.valueOf(words[i]);
        return ((Number) call.invoke(x, arguments)).longValue();
    }

    private static void example(String readme) throws Exception {
        SealedBox x = new SealedBox();
        int calls = 0;
        for (String line : exampleOf(readme).split("\n")) {
            if (line.isEmpty() || line.startsWith("SealedBox x = new SealedBox();")) continue;
            Matcher shown = SHOWN.matcher(line);
            Method call = shown.matches() ? named(shown.group(1)) : null;
            if (call == null) {
                say("no call with its answer: " + line);
                continue;
            }
            long got = answer(x, call, shown.group(2));
            if (got != Long.parseLong(shown.group(3))) say(line + " answered " + got);
            calls++;
        }
        if (calls < 20) say("the example has " + calls + " calls alone");
    }

    private static void table(String readme) {
        TreeSet<String> rows = new TreeSet<>(), calls = new TreeSet<>();
        Matcher row = ROW.matcher(readme);
        while (row.find()) {
            int arguments = row.group(2).isEmpty() ? 0 : row.group(2).split(", ").length;
            if (!rows.add(row.group(1) + " of " + arguments)) say("told twice: " + row.group(1));
        }
        for (Method m : SealedBox.class.getDeclaredMethods()) {
            if (Modifier.isPublic(m.getModifiers())) calls.add(m.getName() + " of " + m.getParameterCount());
        }
        if (!rows.equals(calls)) say("the table has " + rows + ", the class " + calls);
    }

    public static void main(String[] args) throws Exception {
        String readme = Files.readString(Path.of("README.md"));
        example(readme);
        table(readme);
        System.out.println(wrong == 0 ? "ReadmeHolds: all is as due" : "ReadmeHolds: " + wrong + " wrong");
        if (wrong != 0) System.exit(1);
    }
}
