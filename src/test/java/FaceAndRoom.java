import java.lang.management.ManagementFactory;
import java.lang.reflect.Constructor;
import java.lang.reflect.Field;
import java.lang.reflect.Method;
import java.lang.reflect.Modifier;
import java.nio.file.Files;
import java.nio.file.Path;
import java.util.Arrays;
import java.util.TreeSet;
import java.util.regex.Pattern;

/** The face of the class, some rules of LANGUAGE.md that can be seen from outside, and the room that calls take. */
public final class FaceAndRoom {
    private static final String[] FACE = {
        "int ask(int, int, int, int)", "int change(int, int)", "int clear()", "int count(int)", "int empty(int)",
        "int far(int)", "int field(int)", "int form(int, int, int)", "int got(int, int, int)", "int lie(int)",
        "int meet()", "int register(int)", "int right(int, int, int, int)", "int say(int)", "int set(int, int)",
        "int term(int, int, int, int, int)", "int zeros(int)", "long trace()"};
    private static final String[] FORBIDDEN = {
        "throw", "throws", "try", "catch", "synchronized", "assert", "import", "package", "protected", "Exact", "->", "::",
        "System\\.(?!arraycopy)", "Thread", "Object"};
    private static int wrong = 0;

    private static void say(String what) {
        wrong++;
        System.out.println(what);
    }

    private static String told(Method m) {
        String args = Arrays.toString(m.getParameterTypes());
        return m.getReturnType() + " " + m.getName() + "(" + args.substring(1, args.length() - 1) + ")";
    }

    private static void face() {
        TreeSet<String> seen = new TreeSet<>(), names = new TreeSet<>();
        for (Method m : SealedBox.class.getDeclaredMethods()) {
            if (Modifier.isPublic(m.getModifiers())) {
                seen.add(told(m));
                names.add(m.getName());
            }
        }
        if (!seen.equals(new TreeSet<>(Arrays.asList(FACE)))) say("the public methods are " + seen);
        for (Method m : SealedBox.class.getDeclaredMethods()) {
            boolean own = Modifier.isPrivate(m.getModifiers());
            if (!own && !Modifier.isPublic(m.getModifiers())) say(told(m) + " is neither public nor private");
            if (own && names.contains(m.getName())) say(told(m) + " bears the name of a public one");
            if (m.getParameterCount() > 7) say(told(m) + " takes too much");
        }
        TreeSet<String> constants = new TreeSet<>();
        for (Field f : SealedBox.class.getDeclaredFields()) {
            if (!Modifier.isPrivate(f.getModifiers())) constants.add(Modifier.toString(f.getModifiers()) + " " + f.getName());
        }
        String both = "public static final ";
        if (!constants.equals(new TreeSet<>(Arrays.asList(both + "BAD", both + "STATE", both + "FULL", both + "NONE")))) {
            say("the constants are " + constants);
        }
        Constructor<?>[] made = SealedBox.class.getDeclaredConstructors();
        if (made.length != 1 || made[0].getParameterCount() != 0 || !Modifier.isPublic(made[0].getModifiers())) say("constructors");
        int all = SealedBox.class.getModifiers();
        if (!Modifier.isFinal(all) || !Modifier.isPublic(all)) say("the class is not public and final");
    }

    private static void insides() {
        Class<?>[] inside = SealedBox.class.getDeclaredClasses();
        if (inside.length > 11) say("too many classes");
        for (Class<?> c : inside) {
            if (!Modifier.isStatic(c.getModifiers()) || !Modifier.isPrivate(c.getModifiers())) say(c + " is not private and static");
            for (Field f : c.getDeclaredFields()) {
                if (Modifier.isStatic(f.getModifiers()) && !Modifier.isFinal(f.getModifiers())) say(f + " is static, not final");
            }
        }
    }

    private static void words() throws Exception {
        String source = Files.readString(Path.of("src/main/java/SealedBox.java"));
        String code = source.replaceAll("(?s)/\\*.*?\\*/", "").replaceAll("//[^\n]*", "");
        for (String word : FORBIDDEN) {
            String pattern = Character.isLetter(word.charAt(0)) ? "\\b" + word + (word.endsWith(")") ? "" : "\\b") : word;
            if (Pattern.compile(pattern).matcher(code).find()) say("the source has " + word);
        }
        for (char c : source.toCharArray()) {
            if (c > 126) say("a sign above 126: " + (int) c);
        }
    }

    /** A run of the dearest calls; what the calls make must be next to nothing. */
    private static long dearRun(SealedBox x) {
        long sum = x.field(997);
        for (int i = 0; i < 16; i++) sum += x.say(i * i * 331 % 997 * i % 997);
        for (int i = 0; i < 40; i++) sum += x.lie(7) + x.far(1000000000 - i) + x.register(i % 9);
        sum += x.term(0, 5, 1, 0, 2) + x.term(0, 6, 0, 0, 1) + x.set(2, 2);
        for (int i = 0; i < 80; i++) sum += x.got(0, i % 5, 0) + x.right(0, i, i, i) + x.form(2, i, 4) + x.trace();
        sum += x.field(23) + x.term(0, 5, 1, 0, 2) + x.term(1, 6, 0, 3, 1);
        for (int i = 0; i < 20; i++) sum += x.zeros(i % 2) + x.meet();
        return sum;
    }

    private static void room() {
        com.sun.management.ThreadMXBean beans = (com.sun.management.ThreadMXBean) ManagementFactory.getThreadMXBean();
        long id = Thread.currentThread().getId();
        dearRun(new SealedBox());
        long made = beans.getThreadAllocatedBytes(id);
        SealedBox x = new SealedBox();
        made = beans.getThreadAllocatedBytes(id) - made;
        if (made > 16384) say("an object takes " + made + " bytes");
        long before = beans.getThreadAllocatedBytes(id);
        dearRun(x);
        long after = beans.getThreadAllocatedBytes(id);
        if (after - before > 4096) say("the dearest calls take " + (after - before) + " bytes");
    }

    public static void main(String[] args) throws Exception {
        face();
        insides();
        words();
        room();
        System.out.println(wrong == 0 ? "FaceAndRoom: all is as due" : "FaceAndRoom: " + wrong + " wrong");
        if (wrong != 0) System.exit(1);
    }
}
