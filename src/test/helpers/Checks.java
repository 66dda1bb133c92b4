import java.util.ArrayList;
import java.util.List;

/** What the tests of boundary cases share: due answers by sentence, and a look at the whole of an object. */
final class Checks {
    static final int BAD = -1, STATE = -2, FULL = -3, NONE = -9;
    static final int LEAST = Integer.MIN_VALUE, MOST = Integer.MAX_VALUE;
    static final int FIRST_P = 101, LEAST_P = 5, MOST_P = 997;
    /** Where the look has the ASKS and THE TRACE, which some calls may change. */
    private static final int ASKS_AT = 4, TRACE_AT = 5;

    interface Deed {
        void on(SealedBox x);
    }

    interface Call {
        long on(SealedBox x);
    }

    private final String name;
    private String sentence = "";
    private int sentences = 0;
    private int looksOfSentence = 1;
    private int wrong = 0;

    Checks(String name) {
        this.name = name;
    }

    /** Begins the test of a sentence of the document; one that looks at nothing is wrong itself. */
    void sentence(String words) {
        endSentence();
        sentence = words;
        sentences++;
        looksOfSentence = 0;
    }

    private void endSentence() {
        if (looksOfSentence == 0) {
            wrong++;
            System.out.println("[" + sentence + "] is not looked at");
        }
    }

    void due(String what, long got, long want) {
        looksOfSentence++;
        if (got != want) {
            wrong++;
            if (wrong < 40) {
                System.out.println("[" + sentence + "] " + what + " answered " + got + ", due is " + want);
            }
        }
    }

    /** The call has its answer, and of the whole object nothing changes but ASKS and THE TRACE, as told. */
    void changesOnly(String what, Deed scene, Call call, long answer, long asks, long trace) {
        SealedBox called = new SealedBox();
        scene.on(called);
        due(what, call.on(called), answer);
        SealedBox left = new SealedBox();
        scene.on(left);
        List<Long> now = look(called), was = look(left);
        due(what + ", size of the look", now.size(), was.size());
        for (int i = 0; i < Math.min(now.size(), was.size()); i++) {
            long more = i == ASKS_AT ? asks : i == TRACE_AT ? trace : 0;
            due(what + ", what stands (" + i + ")", now.get(i), was.get(i) + more);
        }
    }

    void refused(String what, Deed scene, Call call, int answer) {
        changesOnly(what, scene, call, answer, 0, 0);
    }

    /**
     * All that can be told of an object, by some 300 calls; it is of no use behind this. A box's answers
     * as POWERS at 0 .. 4 tell its polynomial in every field, as no exponent is above 4.
     */
    private static List<Long> look(SealedBox x) {
        List<Long> all = new ArrayList<>();
        for (int what = 0; what <= 4; what++) {
            all.add((long) x.count(what));
        }
        all.add(x.trace());
        int numbers = x.count(3);
        for (int n = 0; n < numbers; n++) {
            all.add((long) x.far(n));
        }
        int length = x.register(0);
        for (int i = 0; i <= length; i++) {
            all.add((long) x.register(i));
        }
        for (int n : new int[] {numbers, 1000, 1000000000}) {
            all.add((long) x.far(n));
        }
        int[] plain = {0, 1, 0, 0};
        for (int what = 0; what < plain.length; what++) {
            all.add((long) x.set(what, plain[what]));
        }
        for (int i = 0; i < 250; i++) {
            all.add((long) x.ask(i / 125, i / 25 % 5, i / 5 % 5, i % 5));
        }
        return all;
    }

    /** A new object with another field. */
    static SealedBox withField(int p) {
        SealedBox x = new SealedBox();
        x.field(p);
        return x;
    }

    /** The ROW becomes these numbers. */
    void sayAll(SealedBox x, int... numbers) {
        x.clear();
        for (int i = 0; i < numbers.length; i++) {
            due("say(" + numbers[i] + ")", x.say(numbers[i]), i + 1);
        }
    }

    static int raised(int v, int e, int p) {
        long power = 1;
        for (int i = 0; i < e; i++) {
            power = power * v % p;
        }
        return (int) power;
    }

    /** Tells how it went; the exit code is 1 if a look was not as due. */
    void end() {
        endSentence();
        String how = wrong == 0 ? sentences + " sentences, all as due" : wrong + " answers are not as due";
        System.out.println(name + ": " + how);
        if (wrong != 0) {
            System.exit(1);
        }
    }
}
