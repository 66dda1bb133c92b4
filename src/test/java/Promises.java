/** Each promise of the document by number: ordinary inputs, the edges it names, wrong inputs. */
public final class Promises {
    private static final int BAD = -1, STATE = -2, FULL = -3, NONE = -9;
    private static final int LEAST = Integer.MIN_VALUE, MOST = Integer.MAX_VALUE;
    private static int wrong = 0;

    private static void due(String what, long got, long want) {
        if (got != want) {
            wrong++;
            System.out.println(what + " answered " + got + ", due is " + want);
        }
    }

    private static SealedBox withField(int p) {
        SealedBox x = new SealedBox();
        due("field", x.field(p), 101);
        return x;
    }

    private static void sayAll(SealedBox x, int... numbers) {
        x.clear();
        for (int i = 0; i < numbers.length; i++) {
            due("say", x.say(numbers[i]), i + 1);
        }
    }

    private static void dueRegister(String what, SealedBox x, int... g) {
        due(what + " length", x.register(0), g.length);
        for (int k = 1; k <= g.length; k++) {
            due(what + " g(" + k + ")", x.register(k), g[k - 1]);
        }
        due(what + " above", x.register(g.length + 1), BAD);
        due(what + " below", x.register(-1), BAD);
        due(what + " least", x.register(LEAST), BAD);
        due(what + " most", x.register(MOST), BAD);
    }

    private static void dueTerm(String what, SealedBox x, int box, int i, int... parts) {
        for (int part = 1; part <= 4; part++) {
            due(what + " part " + part, x.got(box, part, i), parts[part - 1]);
        }
    }

    private static void newObject1() {
        SealedBox x = new SealedBox();
        int[] counts = {101, 0, 0, 0, 0};
        for (int what = 0; what < counts.length; what++) {
            due("1 count", x.count(what), counts[what]);
        }
        due("1 trace", x.trace(), 0);
        due("1 shift", x.set(0, 1), 1);
        due("1 scale", x.set(1, 2), 2);
        due("1 kind of box 0", x.set(2, 0), 0);
        due("1 kind of box 1", x.set(3, 0), 0);
        due("1 register", x.register(0), 0);
        due("1 got", x.got(1, 0, 0), 0);
        SealedBox y = new SealedBox();
        x.say(5);
        x.form(2, 1, 1);
        due("1 another row", y.count(3), 0);
        due("1 another trace", y.trace(), 0);
    }

    private static void field2() {
        SealedBox x = new SealedBox();
        for (int p : new int[] {LEAST, -7, 0, 1, 2, 3, 4, 6, 9, 25, 49, 121, 529, 841, 961, 989, 995, 996, 998, 1009, MOST}) {
            due("2 refused " + p, x.field(p), BAD);
        }
        due("2 still", x.count(0), 101);
        x.term(0, 100, 1, 1, 1);
        x.term(1, 100, 1, 1, 1);
        x.ask(0, 1, 1, 1);
        x.say(100);
        x.set(0, 900);
        x.set(1, 800);
        x.set(2, 1);
        x.set(3, 2);
        x.form(0, 1, 1);
        due("2 refused", x.field(100), BAD);
        due("2 box kept by refusal", x.count(1), 1);
        due("2 row kept by refusal", x.count(3), 1);
        due("2 same prime", x.field(101), 101);
        due("2 box 0", x.count(1), 0);
        due("2 box 1", x.count(2), 0);
        due("2 row", x.count(3), 0);
        due("2 asks stay", x.count(4), 1);
        due("2 trace stays", x.trace(), 1);
        due("2 least", x.field(5), 101);
        due("2 most", x.field(997), 5);
        due("2 was", x.field(7), 997);
        due("2 shift stays", x.set(0, 1), 900);
        due("2 scale stays", x.set(1, 1), 800);
        due("2 kind 0 stays", x.set(2, 0), 1);
        due("2 kind 1 stays", x.set(3, 0), 2);
        int primes = 0;
        for (int p = -10; p <= 1100; p++) {
            if (p % 400 == 0) {
                x = new SealedBox();
            }
            primes += x.field(p) == BAD ? 0 : 1;
        }
        due("2 primes 5 .. 997", primes, 166);
    }

    private static void set3() {
        SealedBox x = new SealedBox();
        due("3 shift", x.set(0, 996), 1);
        due("3 shift was", x.set(0, 0), 996);
        due("3 shift above", x.set(0, 997), BAD);
        due("3 shift below", x.set(0, -1), BAD);
        due("3 shift kept", x.set(0, 5), 0);
        due("3 scale", x.set(1, 996), 2);
        due("3 scale 0", x.set(1, 0), BAD);
        due("3 scale above", x.set(1, 997), BAD);
        due("3 scale kept", x.set(1, 1), 996);
        due("3 kind 0", x.set(2, 2), 0);
        due("3 kind 0 above", x.set(2, 3), BAD);
        due("3 kind 0 below", x.set(2, -1), BAD);
        due("3 kind 0 kept", x.set(2, 0), 2);
        due("3 kind 1", x.set(3, 1), 0);
        due("3 kind 1 most", x.set(3, MOST), BAD);
        due("3 kind 1 kept", x.set(3, 0), 1);
        for (int what : new int[] {LEAST, -1, 4, MOST}) {
            due("3 what " + what, x.set(what, 1), BAD);
        }
    }

    private static void form4And19() {
        SealedBox x = new SealedBox();
        due("4 0 to 0", x.form(0, 0, 0), 1);
        due("4 0 to 1", x.form(0, 0, 1), 0);
        due("4 2 to 4", x.form(0, 2, 4), 16);
        due("4 10 to 3", x.form(0, 10, 3), 91);
        due("19 four powers", x.trace(), 4);
        due("4 shifted round", x.form(1, 100, 3), 0);
        due("4 shifted to 0", x.form(1, 100, 0), 1);
        due("19 two shifted", x.trace(), 26);
        due("4 scaled to 0", x.form(2, 100, 0), 2);
        due("4 scaled", x.form(2, 4, 2), 50);
        due("19 two scaled", x.trace(), 248);
        x.set(0, 996);
        x.set(1, 996);
        due("4 shift modulo p", x.form(1, 0, 1), 87);
        due("4 scale modulo p", x.form(2, 0, 0), 87);
        due("19 both", x.trace(), 370);
        int[][] refused = {{-1, 0, 0}, {3, 0, 0}, {LEAST, 0, 0}, {MOST, 0, 0}, {0, -1, 0}, {0, 101, 0}, {2, MOST, 0},
            {1, LEAST, 0}, {0, 0, -1}, {0, 0, 5}, {0, 0, MOST}, {0, 0, LEAST}};
        for (int[] r : refused) {
            due("4 refused", x.form(r[0], r[1], r[2]), BAD);
        }
        x.term(0, 1, 1, 1, 1);
        x.set(2, 2);
        x.ask(0, 1, 1, 1);
        x.got(0, 0, 0);
        x.right(0, 1, 1, 1);
        x.field(5);
        x.zeros(0);
        x.meet();
        due("19 form() alone tells", x.trace(), 370);
        x.set(1, 5);
        due("4 scale that is 0", x.form(2, 1, 0), 0);
    }

    private static void term5() {
        SealedBox x = withField(7);
        int[][] refused = {{-1, 1, 0, 0, 0}, {2, 1, 0, 0, 0}, {0, 0, 0, 0, 0}, {0, 7, 0, 0, 0}, {0, -1, 0, 0, 0},
            {0, MOST, 0, 0, 0}, {0, LEAST, 0, 0, 0}, {0, 1, -1, 0, 0}, {0, 1, 5, 0, 0}, {0, 1, 0, -1, 0},
            {0, 1, 0, 5, 0}, {0, 1, 0, 0, -1}, {0, 1, 0, 0, 5}};
        for (int[] r : refused) {
            due("5 refused", x.term(r[0], r[1], r[2], r[3], r[4]), BAD);
        }
        due("5 none came", x.count(1), 0);
        for (int i = 0; i < 4; i++) {
            due("5 number", x.term(0, 6, 4, 4, 4), i);
        }
        due("5 full", x.term(0, 1, 0, 0, 0), FULL);
        for (int[] r : refused) {
            due("5 refused ahead of full", x.term(r[0], r[1], r[2], r[3], r[4]), BAD);
        }
        due("5 four", x.count(1), 4);
        due("5 the other box", x.term(1, 1, 0, 0, 0), 0);
        due("5 what it holds", x.ask(0, 1, 1, 1), 3);
    }

    private static void empty6() {
        SealedBox x = new SealedBox();
        x.term(0, 1, 0, 0, 0);
        x.term(0, 2, 0, 0, 0);
        x.term(1, 3, 0, 0, 0);
        for (int box : new int[] {-1, 2, LEAST, MOST}) {
            due("6 refused", x.empty(box), BAD);
        }
        due("6 had", x.empty(0), 2);
        due("6 has none", x.empty(0), 0);
        due("6 the other stays", x.count(2), 1);
        due("6 answers 0", x.ask(0, 1, 2, 3), 0);
        due("6 numbers begin anew", x.term(0, 9, 1, 0, 0), 0);
        due("6 old terms are gone", x.ask(0, 1, 2, 3), 9);
    }

    private static void ask7() {
        SealedBox x = new SealedBox();
        due("7 empty", x.ask(1, 100, 0, 100), 0);
        x.term(0, 3, 2, 1, 0);
        x.term(0, 2, 0, 0, 0);
        due("7 power", x.ask(0, 4, 5, 6), 40);
        due("7 at 0", x.ask(0, 0, 0, 0), 2);
        x.set(2, 1);
        due("7 shifted", x.ask(0, 4, 5, 6), 48);
        x.set(2, 2);
        due("7 scaled", x.ask(0, 4, 5, 6), 81);
        x.term(1, 3, 2, 1, 0);
        due("7 a box's own kind", x.ask(1, 4, 5, 6), 38);
        due("7 counted", x.count(4), 6);
        int[][] refused = {{-1, 0, 0, 0}, {2, 0, 0, 0}, {0, -1, 0, 0}, {0, 101, 0, 0}, {0, 0, -1, 0}, {0, 0, 101, 0},
            {0, 0, 0, -1}, {0, 0, 0, 101}, {1, MOST, LEAST, 0}};
        for (int[] r : refused) {
            due("7 refused", x.ask(r[0], r[1], r[2], r[3]), BAD);
            due("15 refused", x.right(r[0], r[1], r[2], r[3]), BAD);
        }
        due("7 refused is not counted", x.count(4), 6);
        SealedBox letters = new SealedBox();
        letters.term(0, 1, 1, 2, 3);
        due("7 each letter its exponent", letters.ask(0, 2, 3, 5), 2 * 9 * 125 % 101);
    }

    private static void say8Change9Clear10() {
        SealedBox x = withField(13);
        due("10 empty", x.clear(), 0);
        due("9 of an empty row", x.change(0, 1), BAD);
        for (int v : new int[] {-1, 13, LEAST, MOST}) {
            due("8 refused", x.say(v), BAD);
        }
        for (int i = 0; i < 16; i++) {
            due("8 how many", x.say(i % 13), i + 1);
        }
        due("8 full", x.say(0), FULL);
        due("8 refused ahead of full", x.say(13), BAD);
        due("8 has 16", x.count(3), 16);
        due("9 was", x.change(15, 12), 2);
        due("9 was again", x.change(15, 0), 12);
        due("9 first", x.change(0, 5), 0);
        int[][] refused = {{-1, 0}, {16, 0}, {LEAST, 0}, {MOST, 0}, {0, -1}, {0, 13}, {0, MOST}};
        for (int[] r : refused) {
            due("9 refused", x.change(r[0], r[1]), BAD);
        }
        due("9 kept", x.far(0), 5);
        due("10 had", x.clear(), 16);
        due("10 is empty", x.count(3), 0);
        due("10 its register", x.register(0), 0);
        x.say(4);
        due("9 beyond the row", x.change(1, 1), BAD);
    }

    private static void register11() {
        SealedBox x = new SealedBox();
        dueRegister("11 empty", x);
        sayAll(x, 0, 0, 0, 0);
        dueRegister("11 zeros", x);
        sayAll(x, 3);
        dueRegister("11 one number", x, 3);
        sayAll(x, 5, 0, 0, 0);
        dueRegister("11 a last weight of 0", x, 0);
        sayAll(x, 0, 0, 7);
        dueRegister("11 late", x, 0, 0, 7);
        sayAll(x, 1, 2, 4, 8, 16, 32, 64, 27);
        dueRegister("11 doubling", x, 2);
        sayAll(x, 0, 1, 1, 2, 3, 5, 8, 13);
        dueRegister("11 of two", x, 1, 1);
        int[] late = new int[16];
        late[15] = 7;
        sayAll(x, late);
        dueRegister("11 of sixteen", x, 0, 0, 0, 0, 0, 0, 0, 0, 0, 0, 0, 0, 0, 0, 0, 7);
    }

    private static void far12() {
        SealedBox x = withField(7);
        due("12 empty", x.far(0), 0);
        due("12 empty, far", x.far(1000000000), 0);
        sayAll(x, 0, 0, 0);
        due("12 zeros, far", x.far(999999999), 0);
        sayAll(x, 0, 1, 1, 2, 3, 5);
        int[] sixteen = {0, 1, 1, 2, 3, 5, 1, 6, 0, 6, 6, 5, 4, 2, 6, 1};
        for (int n = 0; n < 64; n++) {
            due("12 near " + n, x.far(n), sixteen[n % 16]);
            due("12 far " + n, x.far(1000000000 - n), sixteen[(64 - n) % 16]);
        }
        for (int n : new int[] {-1, 1000000001, LEAST, MOST}) {
            due("12 refused", x.far(n), BAD);
        }
        sayAll(x, 3, 6);
        due("12 doubling", x.far(1000000000), 6);
        sayAll(x, 5, 0, 0, 0);
        due("12 in the row", x.far(0), 5);
        due("12 gone out", x.far(123456), 0);
        SealedBox y = withField(997);
        int[] late = new int[16];
        late[15] = 7;
        sayAll(y, late);
        due("12 sixteen back", y.far(16), 0);
        due("12 sixteen on", y.far(31), 49);
        due("12 twice sixteen on", y.far(47), 343);
        due("12 thrice sixteen on", y.far(63), 2401 % 997);
    }

    private static void lie13() {
        SealedBox x = new SealedBox();
        for (int h : new int[] {-1, 8, LEAST, MOST}) {
            due("13 refused", x.lie(h), BAD);
        }
        due("13 empty", x.lie(0), 999000);
        sayAll(x, 0, 0, 5);
        due("13 to zeros", x.lie(0), 2000);
        due("13 of one", x.lie(1), 2000);
        due("13 least place, then least number", x.lie(2), 1);
        due("13 as it is", x.lie(3), 999000);
        due("13 nothing changes", x.far(2), 5);
        sayAll(x, 0, 4, 5);
        due("13 two too many", x.lie(0), NONE);
        sayAll(x, 1, 2, 4, 9, 16, 32, 64, 27);
        due("13 mended", x.lie(1), 3008);
        due("13 register too long", x.lie(0), NONE);
        x.change(3, 8);
        due("13 mended is so", x.lie(1), 999000);
        SealedBox y = withField(997);
        sayAll(y, 996, 995, 993, 989, 981, 965, 933, 869, 741, 485, 970, 943, 889, 781, 565, 5);
        due("13 in the last place", y.lie(1), 15000 + 565 * 2 % 997);
        due("13 asks nothing", y.count(4), 0);
    }

    private static void got14Right15() {
        SealedBox x = withField(997);
        x.term(0, 996, 1, 4, 4);
        x.term(0, 9, 1, 0, 0);
        x.term(0, 7, 0, 0, 1);
        x.term(0, 5, 0, 0, 0);
        due("14 how many", x.got(0, 0, 0), 4);
        due("14 how many, whatever i is", x.got(0, 0, MOST), 4);
        dueTerm("14 first", x, 0, 0, 5, 0, 0, 0);
        dueTerm("14 second", x, 0, 1, 7, 0, 0, 1);
        dueTerm("14 third", x, 0, 2, 9, 1, 0, 0);
        dueTerm("14 fourth", x, 0, 3, 996, 1, 4, 4);
        due("14 asks", x.count(4), 9 * 18);
        for (int i : new int[] {-1, 4, LEAST, MOST}) {
            due("14 no such term", x.got(0, 1, i), BAD);
        }
        due("14 such a refusal asks", x.count(4), 9 * 22);
        int[][] refused = {{-1, 0}, {2, 0}, {0, -1}, {0, 5}, {LEAST, MOST}};
        for (int[] r : refused) {
            due("14 refused", x.got(r[0], r[1], 0), BAD);
        }
        due("14 these ask nothing", x.count(4), 9 * 22);
        due("15 right", x.right(0, 996, 3, 77), 1);
        due("15 asks", x.count(4), 9 * 22 + 10);
        due("14 the row is another", x.count(3), 0);
        due("15 an empty box", x.right(1, 4, 5, 6), 1);
        sayAll(x, 1, 2, 3);
        x.got(0, 0, 0);
        due("14 the row at hand stays", x.far(2), 3);
        due("14 terms stay", x.count(1), 4);
    }

    private static void failing14And15() {
        SealedBox x = withField(997);
        // 2^3 5^3 is 3, modulo 997: y is not to be told from x^3 z^3.
        x.term(0, 1, 0, 1, 0);
        due("14 two of one number", x.got(0, 0, 0), STATE);
        due("14 state is asked ahead of i", x.got(0, 1, 99), STATE);
        due("15 state", x.right(0, 1, 1, 1), STATE);
        due("15 asks, failing too", x.count(4), 28);
        due("15 bad ahead of state", x.right(0, 997, 1, 1), BAD);
        x.term(0, 996, 3, 0, 3);
        due("14 each hides the other", x.got(0, 0, 0), 0);
        due("14 none of them", x.got(0, 1, 0), BAD);
        due("15 right where they are alike", x.right(0, 1, 1, 1), 1);
        due("15 not right where they are not", x.right(0, 2, 1, 1), 0);
        SealedBox ninth = withField(11);
        ninth.set(0, 2);
        ninth.set(2, 1);
        ninth.term(0, 2, 2, 1, 1);
        ninth.term(0, 6, 1, 3, 3);
        ninth.term(0, 7, 1, 4, 1);
        ninth.term(0, 1, 3, 3, 2);
        int[] threes = {1, 3, 9, 5, 4, 1, 3, 9, 5}, fives = {1, 5, 3, 4, 9, 1, 5, 3, 4}, twos = {1, 2, 4, 8, 5, 10, 9, 7, 3};
        for (int i = 0; i < 9; i++) {
            due("14 answer " + i, ninth.ask(0, twos[i], threes[i], fives[i]), i < 8 ? 0 : 6);
        }
        due("14 the ninth is not so", ninth.got(0, 0, 0), STATE);
        SealedBox many = withField(997);
        many.term(0, 1, 4, 0, 0);
        many.set(2, 1);
        due("14 five terms when shifted", many.got(0, 0, 0), STATE);
    }

    /** Boxes of one shifted term, whose register has as many keys as it is long, and that fail yet. */
    private static void failingNarrowly14() {
        int[][] boxes = {
            // two keys have one number, though the ninth answer is so
            {29, 5, 2, 0, 2, 4}, {43, 2, 1, 3, 3, 2}, {47, 39, 7, 2, 2, 4}, {101, 98, 9, 3, 4, 3},
            // all keys differ, and the ninth answer is not so
            {113, 40, 15, 2, 3, 2}, {139, 63, 36, 4, 0, 0}, {139, 32, 20, 4, 2, 4}};
        for (int[] b : boxes) {
            SealedBox x = withField(b[0]);
            x.set(0, b[1]);
            x.set(2, 1);
            x.term(0, b[2], b[3], b[4], b[5]);
            due("14 fails narrowly, p " + b[0], x.got(0, 0, 0), STATE);
            due("15 fails narrowly, p " + b[0], x.right(0, 1, 1, 1), STATE);
            due("14 asks, failing", x.count(4), 19);
        }
    }

    private static void kinds14And15() {
        SealedBox x = withField(997);
        x.term(1, 3, 1, 0, 0);
        x.set(3, 1);
        due("14 shifted", x.got(1, 0, 0), 2);
        dueTerm("14 shifted, one", x, 1, 0, 3, 0, 0, 0);
        dueTerm("14 shifted, x", x, 1, 1, 3, 1, 0, 0);
        due("15 shifted", x.right(1, 500, 600, 700), 1);
        x.set(0, 0);
        x.set(3, 2);
        dueTerm("14 scaled", x, 1, 0, 24, 1, 0, 0);
        due("15 scaled", x.right(1, 500, 600, 700), 1);
        x.set(1, 1);
        x.term(1, 994, 1, 0, 0);
        due("14 coefficients that make 0", x.got(1, 0, 0), 0);
        SealedBox five = withField(5);
        five.term(0, 1, 0, 0, 1);
        due("14 z in the field of 5", five.got(0, 0, 0), STATE);
        due("15 z in the field of 5", five.right(0, 1, 1, 1), STATE);
        // 2^3 is 1, modulo 7: x^3 - 1 hides behind its answers.
        SealedBox seven = withField(7);
        seven.term(0, 1, 3, 0, 0);
        seven.term(0, 6, 0, 0, 0);
        due("14 hidden", seven.got(0, 0, 0), 0);
        due("15 hidden", seven.right(0, 3, 0, 0), 0);
    }

    private static void zeros16Meet17() {
        SealedBox x = withField(23);
        due("16 empty", x.zeros(0), 23 * 23 * 23);
        due("17 both empty", x.meet(), 23 * 23 * 23);
        x.term(0, 1, 1, 1, 1);
        due("16 xyz", x.zeros(0), 23 * 23 * 23 - 22 * 22 * 22);
        x.term(1, 1, 0, 0, 1);
        due("16 z", x.zeros(1), 23 * 23);
        due("17 z or xy = 1", x.meet(), 23 * 23 + 22 * 22);
        x.set(3, 1);
        due("16 z, shifted", x.zeros(1), 23 * 23);
        x.set(1, 23);
        x.set(3, 2);
        due("16 scale that is 0", x.zeros(1), 23 * 23 * 23);
        due("17 is then zeros of the other", x.meet(), x.zeros(0));
        for (int box : new int[] {-1, 2, LEAST, MOST}) {
            due("16 refused", x.zeros(box), BAD);
        }
        due("16, 17 ask nothing", x.count(4), 0);
        x.field(29);
        due("16 state", x.zeros(1), STATE);
        due("16 bad ahead of state", x.zeros(2), BAD);
        due("17 state", x.meet(), STATE);
        x.field(5);
        x.set(3, 0);
        x.term(1, 1, 2, 0, 0);
        x.term(1, 1, 0, 0, 0);
        due("16 x x = -1", x.zeros(1), 2 * 25);
        x.term(0, 1, 0, 4, 0);
        due("17 x x + 1 = y^4", x.meet(), 2 * 5 + 4 * 5);
    }

    private static void count18() {
        SealedBox x = withField(19);
        x.term(0, 1, 0, 0, 0);
        x.term(1, 1, 0, 0, 0);
        x.term(1, 2, 0, 0, 0);
        sayAll(x, 1, 2, 3);
        x.ask(0, 0, 0, 0);
        x.got(0, 0, 0);
        int[] counts = {19, 1, 2, 3, 10};
        for (int what = 0; what < counts.length; what++) {
            due("18 count " + what, x.count(what), counts[what]);
        }
        for (int what : new int[] {-1, 5, LEAST, MOST}) {
            due("18 refused", x.count(what), BAD);
        }
    }

    public static void main(String[] args) {
        newObject1();
        field2();
        set3();
        form4And19();
        term5();
        empty6();
        ask7();
        say8Change9Clear10();
        register11();
        far12();
        lie13();
        got14Right15();
        failing14And15();
        failingNarrowly14();
        kinds14And15();
        zeros16Meet17();
        count18();
        System.out.println(wrong == 0 ? "Promises: all answers are as due" : "Promises: " + wrong + " wrong");
        if (wrong != 0) {
            System.exit(1);
        }
    }
}
