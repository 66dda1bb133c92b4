import java.util.Arrays;

/**
 * The boundary cases that the document names for what is got back, for zeros and for where boxes meet, by sentence.
 * Where a box FAILS, what makes it fail is looked at too, so that each cause stands alone.
 */
public final class GotBackEdges {
    private static final int BAD = Checks.BAD, STATE = Checks.STATE, LEAST = Checks.LEAST, MOST = Checks.MOST;
    private static final Checks CHECKS = new Checks("GotBackEdges");
    /** In these fields no two of all exponents have one number. */
    private static final int CLEAR_P = 251, GREAT_CLEAR_P = 977;

    private static void due(String what, long got, long want) {
        CHECKS.due(what, got, want);
    }

    private static void dueTerm(SealedBox x, int box, int i, int... parts) {
        for (int what = 1; what <= 4; what++) {
            due("got(" + box + ", " + what + ", " + i + ")", x.got(box, what, i), parts[what - 1]);
        }
    }

    /** A box 0 by its KIND, of terms of four numbers each. */
    private static SealedBox boxOf(int p, int shift, int kind, int[]... terms) {
        SealedBox x = Checks.withField(p);
        x.set(0, shift);
        x.set(2, kind);
        for (int[] t : terms) {
            x.term(0, t[0], t[1], t[2], t[3]);
        }
        return x;
    }

    // ---- what a box's nine answers show, by the document's words

    private static final class Shown {
        int length, keys, differing;
        boolean ninthSo;
        private final int[] g;

        Shown(SealedBox x, int p) {
            int[] answers = new int[9];
            SealedBox row = Checks.withField(p);
            for (int i = 0; i < 9; i++) {
                answers[i] = x.ask(0, Checks.raised(2, i, p), Checks.raised(3, i, p), Checks.raised(5 % p, i, p));
                if (i < 8) {
                    row.say(answers[i]);
                }
            }
            length = row.register(0);
            ninthSo = row.far(8) == answers[8];
            g = new int[length + 1];
            for (int k = 1; k <= length; k++) {
                g[k] = row.register(k);
            }
            boolean[] seen = new boolean[p];
            for (int abc = 0; abc < 125; abc++) {
                int ofTwo = Checks.raised(2, abc / 25, p) * Checks.raised(3, abc / 5 % 5, p) % p;
                int number = ofTwo * Checks.raised(5 % p, abc % 5, p) % p;
                if (isRoot(number, p)) {
                    keys++;
                    differing += seen[number] ? 0 : 1;
                    seen[number] = true;
                }
            }
        }

        private boolean isRoot(int number, int p) {
            long sum = 0;
            for (int k = 1; k <= length; k++) {
                sum += (long) g[k] * Checks.raised(number, length - k, p);
            }
            return Checks.raised(number, length, p) == sum % p;
        }
    }

    private static void dueShown(SealedBox x, int length, int keys, int differing, boolean ninthSo) {
        Shown shown = new Shown(x, x.count(0));
        due("L of its answers", shown.length, length);
        due("its KEYS", shown.keys, keys);
        due("its KEYS' numbers", shown.differing, differing);
        due("whether its ninth answer is so", shown.ninthSo ? 1 : 0, ninthSo ? 1 : 0);
    }

    private static void dueFails(SealedBox x) {
        int asks = x.count(4);
        due("got(0, 0, 0)", x.got(0, 0, 0), STATE);
        due("got(0, 1, 0)", x.got(0, 1, 0), STATE);
        due("right", x.right(0, 1, 1, 1), STATE);
        due("ASKS", x.count(4), asks + 28);
    }

    // ---- promise 14

    private static void howManyTerms() {
        CHECKS.sentence("14 got: How many TERMS are GOT BACK of a BOX: 0 .. 4");
        int[][] terms = {{250, 4, 4, 4}, {1, 0, 0, 0}, {7, 4, 0, 0}, {9, 0, 0, 4}};
        SealedBox x = Checks.withField(CLEAR_P);
        for (int n = 0; n <= 4; n++) {
            due("got of " + n, x.got(0, 0, 0), n);
            due("got of the other box", x.got(1, 0, 0), 0);
            if (n < 4) {
                x.term(0, terms[n][0], terms[n][1], terms[n][2], terms[n][3]);
            }
        }
        dueShown(x, 4, 4, 4, true);
        CHECKS.sentence("KEYS are of all exponents a, b, c 0 .. 4 each, in order of a, then b, then c");
        dueTerm(x, 0, 0, 1, 0, 0, 0);
        dueTerm(x, 0, 1, 9, 0, 0, 4);
        dueTerm(x, 0, 2, 7, 4, 0, 0);
        dueTerm(x, 0, 3, 250, 4, 4, 4);
        SealedBox y = boxOf(CLEAR_P, 1, 0, new int[][] {{4, 1, 0, 0}, {3, 0, 4, 0}, {2, 0, 1, 0}, {1, 0, 0, 4}});
        dueTerm(y, 0, 0, 1, 0, 0, 4);
        dueTerm(y, 0, 1, 2, 0, 1, 0);
        dueTerm(y, 0, 2, 3, 0, 4, 0);
        dueTerm(y, 0, 3, 4, 1, 0, 0);
    }

    private static void coefficients() {
        CHECKS.sentence("Coefficients are those by which the KEYS' powers, added, are the first L answers: up to P - 1");
        for (int p : new int[] {CLEAR_P, GREAT_CLEAR_P}) {
            for (int round = 0; round < 64; round++) {
                int n = 1 + round % 4;
                int[][] all = {{p - 1, 0, 0, 0}, {p - 1 - round, 0, 1, 4}, {1 + 53 * round % (p - 1), 3, 2, 0},
                    {p - 1 - 31 * round % (p - 1), 4, 4, 4}};
                SealedBox great = boxOf(p, 1, 0, Arrays.copyOf(all, n));
                due("how many", great.got(0, 0, 0), n);
                for (int i = 0; i < n; i++) {
                    dueTerm(great, 0, i, all[i]);
                }
            }
        }
        CHECKS.sentence("Coefficients are those by which..: the first L answers are P - 1 each");
        int[][][] boxes = {
            {{335, 0, 0, 4}, {815, 0, 2, 1}, {416, 2, 4, 0}, {387, 4, 2, 1}},
            {{475, 0, 3, 3}, {856, 3, 4, 0}, {951, 4, 0, 4}, {648, 4, 2, 0}},
            {{515, 1, 3, 3}, {27, 2, 3, 4}, {775, 4, 1, 2}, {636, 4, 4, 4}},
            {{877, 0, 0, 3}, {781, 0, 4, 4}, {583, 2, 3, 3}, {689, 3, 0, 4}}};
        for (int[][] box : boxes) {
            SealedBox most = boxOf(GREAT_CLEAR_P, 1, 0, box);
            for (int i = 0; i < 4; i++) {
                int two = Checks.raised(2, i, 977), three = Checks.raised(3, i, 977), five = Checks.raised(5, i, 977);
                due("answer " + i, most.ask(0, two, three, five), 976);
            }
            for (int i = 0; i < 4; i++) {
                dueTerm(most, 0, i, box[i]);
            }
        }
    }

    private static void eachKeyAlone() {
        CHECKS.sentence("KEYS: each of all exponents is got back alone, in a field where no two have one number");
        for (int abc = 0; abc < 125; abc++) {
            SealedBox one = boxOf(CLEAR_P, 1, 0, new int[] {250, abc / 25, abc / 5 % 5, abc % 5});
            due("how many", one.got(0, 0, 0), 1);
            dueTerm(one, 0, 0, 250, abc / 25, abc / 5 % 5, abc % 5);
        }
    }

    private static void noTerms() {
        CHECKS.sentence("GOT BACK of an empty BOX: L is 0, and no TERM is GOT");
        for (int p : new int[] {5, 7, 101, 997}) {
            SealedBox x = Checks.withField(p);
            due("got(0, 0, 0)", x.got(0, 0, 0), 0);
            due("got(0, 1, 0)", x.got(0, 1, 0), BAD);
            due("right", x.right(0, p - 1, 0, p - 1), 1);
            due("ASKS", x.count(4), 28);
        }
        CHECKS.sentence("GOT BACK of a full BOX that answers 0: no TERM is GOT");
        SealedBox x = boxOf(101, 1, 0, new int[][] {{1, 1, 2, 3}, {100, 1, 2, 3}, {50, 0, 0, 0}, {51, 0, 0, 0}});
        due("TERMS", x.count(1), 4);
        due("got(0, 0, 0)", x.got(0, 0, 0), 0);
        due("got(0, 1, 0)", x.got(0, 1, 0), BAD);
        due("right", x.right(0, 3, 4, 5), 1);
        CHECKS.sentence("GOT BACK by a SCALE that is 0 modulo P: no TERM is GOT");
        SealedBox zero = boxOf(101, 1, 2, new int[][] {{1, 1, 2, 3}, {7, 0, 0, 0}});
        zero.set(1, 101);
        due("got(0, 0, 0)", zero.got(0, 0, 0), 0);
        due("right", zero.right(0, 3, 4, 5), 1);
    }

    private static void notJustLKeys() {
        CHECKS.sentence("it FAILS if there are not just L of them: more");
        // 2^3 5^3 is 3, modulo 997
        SealedBox more = boxOf(997, 1, 0, new int[] {1, 0, 1, 0});
        dueShown(more, 1, 2, 1, true);
        dueFails(more);
        // 5 is 0, modulo 5: every key with z has the number 0
        SealedBox five = boxOf(5, 1, 0, new int[] {1, 0, 0, 1});
        dueShown(five, 1, 100, 1, true);
        dueFails(five);
        CHECKS.sentence("it FAILS if there are not just L of them: none");
        SealedBox none = boxOf(149, 41, 1, new int[][] {{105, 0, 0, 1}, {135, 0, 1, 1}, {142, 0, 2, 0}});
        due("its ninth answer", none.ask(0, 107, 5, 96), 0);
        dueShown(none, 4, 0, 0, false);
        dueFails(none);
        CHECKS.sentence("it FAILS if there are not just L of them: fewer, by which its first and its ninth answer are so");
        SealedBox one = boxOf(139, 43, 1, new int[][] {{13, 0, 3, 0}, {14, 1, 0, 1}, {4, 0, 2, 0}, {82, 0, 1, 0}});
        dueShown(one, 4, 1, 1, false);
        dueFails(one);
        SealedBox two = boxOf(151, 84, 1, new int[][] {{112, 1, 0, 1}, {79, 0, 2, 0}});
        dueShown(two, 4, 2, 2, false);
        dueFails(two);
    }

    private static void twoOfOneNumber() {
        CHECKS.sentence("it FAILS if two have one number, though there are just L of them");
        SealedBox[] boxes = {
            boxOf(29, 5, 1, new int[] {2, 0, 2, 4}),
            boxOf(43, 2, 1, new int[] {1, 3, 3, 2}),
            // one pair alone: the first two keys, and so on through all pairs of four
            boxOf(103, 26, 1, new int[][] {{55, 0, 3, 0}, {52, 4, 0, 0}}),
            boxOf(103, 1, 1, new int[][] {{26, 2, 0, 0}, {28, 1, 1, 0}}),
            boxOf(103, 12, 1, new int[][] {{87, 3, 0, 0}, {35, 1, 0, 1}}),
            boxOf(103, 10, 1, new int[][] {{7, 4, 0, 0}, {81, 3, 0, 0}, {64, 1, 0, 0}, {6, 0, 0, 4}}),
            boxOf(103, 16, 1, new int[][] {{94, 0, 4, 0}, {1, 1, 0, 1}, {75, 0, 2, 0}}),
            boxOf(103, 54, 1, new int[][] {{43, 0, 0, 3}, {3, 0, 4, 0}, {91, 1, 0, 1}})};
        for (SealedBox x : boxes) {
            Shown shown = new Shown(x, x.count(0));
            due("L at most 4", shown.length <= 4 ? 1 : 0, 1);
            due("just L", shown.keys, shown.length);
            due("two of one number", shown.differing < shown.keys ? 1 : 0, 1);
            dueFails(x);
        }
    }

    private static void theNinth() {
        CHECKS.sentence("it FAILS, if the ninth one is not so");
        for (int[] b : new int[][] {{113, 40, 15, 2, 3, 2}, {139, 63, 36, 4, 0, 0}, {139, 32, 20, 4, 2, 4}}) {
            SealedBox x = boxOf(b[0], b[1], 1, new int[] {b[2], b[3], b[4], b[5]});
            Shown shown = new Shown(x, b[0]);
            due("L at most 4", shown.length <= 4 ? 1 : 0, 1);
            due("just L", shown.keys, shown.length);
            due("all differ", shown.differing, shown.length);
            due("the ninth", shown.ninthSo ? 1 : 0, 0);
            dueFails(x);
        }
        CHECKS.sentence("it FAILS, if the ninth one is not so: L is 0, and the ninth is not 0");
        SealedBox zeros = boxOf(11, 2, 1, new int[][] {{2, 2, 1, 1}, {6, 1, 3, 3}, {7, 1, 4, 1}, {1, 3, 3, 2}});
        due("the ninth", zeros.ask(0, 3, 5, 4), 6);
        dueShown(zeros, 0, 0, 0, false);
        dueFails(zeros);
    }

    private static void aboveFour() {
        CHECKS.sentence("it FAILS, if L is above 4, though just L KEYS are there, all differ, and the ninth one is so");
        SealedBox a = boxOf(109, 8, 1, new int[][] {{14, 1, 0, 0}, {29, 0, 1, 0}, {87, 0, 0, 3}});
        SealedBox b = boxOf(193, 61, 1, new int[][] {{110, 0, 0, 2}, {58, 0, 2, 0}, {158, 0, 1, 0}});
        for (SealedBox x : new SealedBox[] {a, b}) {
            dueShown(x, 5, 5, 5, true);
            dueFails(x);
        }
        CHECKS.sentence("L is 4, and it is got back, of one term that is SHIFTED");
        SealedBox cube = boxOf(CLEAR_P, 1, 1, new int[] {1, 3, 0, 0});
        dueShown(cube, 4, 4, 4, true);
        due("how many", cube.got(0, 0, 0), 4);
        int[] threes = {1, 3, 3, 1};
        for (int i = 0; i < 4; i++) {
            dueTerm(cube, 0, i, threes[i], i, 0, 0);
        }
        due("right", cube.right(0, 250, 0, 0), 1);
    }

    private static void rowNotAtHand() {
        CHECKS.sentence("a BOX is asked.. as a ROW (not the one at hand): a full ROW is no hindrance and stays");
        Checks.Deed full = x -> {
            x.field(CLEAR_P);
            for (int i = 0; i < 16; i++) {
                x.say(250 - i);
            }
            x.term(0, 5, 1, 0, 2);
            x.term(1, 6, 0, 1, 2);
        };
        CHECKS.changesOnly("got", full, x -> x.got(0, 0, 0), 1, 9, 0);
        CHECKS.changesOnly("got of box 1", full, x -> x.got(1, 1, 0), 6, 9, 0);
        CHECKS.changesOnly("right", full, x -> x.right(0, 1, 1, 1), 1, 10, 0);
        CHECKS.sentence("got of an empty ROW leaves it empty");
        CHECKS.changesOnly("got", x -> x.term(0, 5, 1, 0, 2), x -> x.got(1, 0, 0), 0, 9, 0);
    }

    private static void whatAndI() {
        CHECKS.sentence("14 got: (what = 0); of the i-th: its coefficient (1), a (2), b (3), c (4). BAD of box, what asks nothing");
        SealedBox x = boxOf(CLEAR_P, 1, 0, new int[][] {{5, 4, 3, 2}, {6, 1, 0, 0}});
        dueTerm(x, 0, 0, 6, 1, 0, 0);
        dueTerm(x, 0, 1, 5, 4, 3, 2);
        due("ASKS", x.count(4), 72);
        for (int what : new int[] {LEAST, -1, 5, 6, MOST}) {
            due("what " + what, x.got(0, what, 0), BAD);
        }
        for (int box : new int[] {LEAST, -1, 2, MOST}) {
            due("box " + box, x.got(box, 0, 0), BAD);
        }
        due("ASKS", x.count(4), 72);
        CHECKS.sentence("14 got: BAD: also no such TERM: it asks nine times");
        int asks = 72;
        for (int what = 1; what <= 4; what++) {
            for (int i : new int[] {LEAST, -1, 2, 3, 4, MOST}) {
                due("got(0, " + what + ", " + i + ")", x.got(0, what, i), BAD);
                asks += 9;
                due("ASKS", x.count(4), asks);
            }
        }
        CHECKS.sentence("14 got: of what = 0 no i-th TERM is asked for");
        for (int i : new int[] {LEAST, -1, 0, 2, MOST}) {
            due("got(0, 0, " + i + ")", x.got(0, 0, i), 2);
        }
        CHECKS.sentence("14 got: STATE: it FAILS (that is asked ahead of i), behind BAD of box, what");
        SealedBox failing = boxOf(997, 1, 0, new int[] {1, 0, 1, 0});
        for (int i : new int[] {LEAST, -1, 0, 1, MOST}) {
            due("i " + i, failing.got(0, 1, i), STATE);
        }
        due("ASKS", failing.count(4), 45);
        due("what 5", failing.got(0, 5, 0), BAD);
        due("what -1", failing.got(0, -1, 0), BAD);
        due("ASKS", failing.count(4), 45);
    }

    // ---- promise 15

    private static void rightBounds() {
        CHECKS.sentence("15 right: BAD: box 0, 1, and x, y, z of 0 .. P - 1; it asks nothing");
        for (int p : new int[] {CLEAR_P, 997}) {
            // box 0 is got back, and in the field of 997 it FAILS: BAD comes ahead of that
            SealedBox x = boxOf(p, 1, 0, new int[] {1, 0, 1, 0});
            for (int v : new int[] {LEAST, -1, p, p + 1, MOST}) {
                due("x " + v, x.right(0, v, 0, 0), BAD);
                due("y " + v, x.right(0, 0, v, 0), BAD);
                due("z " + v, x.right(0, 0, 0, v), BAD);
            }
            for (int box : new int[] {LEAST, -1, 2, MOST}) {
                due("box " + box, x.right(box, 1, 1, 1), BAD);
            }
            due("ASKS", x.count(4), 0);
            due("at 0", x.right(0, 0, 0, 0), p == CLEAR_P ? 1 : STATE);
            due("at P - 1", x.right(0, p - 1, p - 1, p - 1), p == CLEAR_P ? 1 : STATE);
            due("ASKS: ten each, failing too", x.count(4), 20);
        }
        CHECKS.sentence("15 right: Whether what is GOT BACK of a BOX answers as it does: 1, 0");
        // 2^3 is 1, modulo 7: x^3 - 1 hides behind its answers, and answers 0 at 1, 2, 4 alone
        SealedBox hidden = boxOf(7, 1, 0, new int[][] {{1, 3, 0, 0}, {6, 0, 0, 0}});
        int[] due = {0, 1, 1, 0, 1, 0, 0};
        due("got(0, 0, 0)", hidden.got(0, 0, 0), 0);
        for (int v = 0; v < 7; v++) {
            due("at " + v, hidden.right(0, v, 6, 6), due[v]);
        }
        CHECKS.sentence("15 right: as POWERS: what is GOT BACK of a SHIFTED, a SCALED BOX answers as that BOX by its KIND");
        SealedBox x = boxOf(CLEAR_P, 7, 1, new int[][] {{3, 1, 1, 0}});
        for (int kind = 1; kind <= 2; kind++) {
            x.set(2, kind);
            due("how many", x.got(0, 0, 0), 4);
            due("at 0", x.right(0, 0, 0, 0), 1);
            due("at P - 1", x.right(0, 250, 250, 250), 1);
            due("between", x.right(0, 100, 3, 77), 1);
        }
    }

    // ---- promises 16, 17

    private static void zerosAndMeetBounds() {
        CHECKS.sentence("ZEROS: at how many of all x, y, z it answers 0 (P 23 at most); MEET (likewise). STATE: P is above 23");
        int[] counted = {5, 7, 11, 13, 17, 19, 23}, above = {29, 31, 101, 997};
        for (int p : counted) {
            SealedBox x = Checks.withField(p);
            int all = p * p * p, some = (p - 1) * (p - 1) * (p - 1);
            due("ZEROS of an empty BOX", x.zeros(0), all);
            due("MEET of empty BOXES", x.meet(), all);
            x.term(0, p - 1, 0, 0, 0);
            due("ZEROS of P - 1", x.zeros(0), 0);
            due("MEET of P - 1 and an empty BOX", x.meet(), 0);
            x.term(1, 1, 4, 4, 4);
            due("ZEROS of letters", x.zeros(1), all - some);
            x.term(1, p - 1, 4, 4, 4);
            due("ZEROS of what is 0", x.zeros(1), all);
            x.empty(0);
            due("MEET of an empty BOX and what is 0", x.meet(), all);
            due("ASKS", x.count(4), 0);
        }
        for (int p : above) {
            SealedBox x = Checks.withField(p);
            due("ZEROS of 0", x.zeros(0), STATE);
            due("ZEROS of 1", x.zeros(1), STATE);
            due("MEET", x.meet(), STATE);
        }
        CHECKS.sentence("at all x, y, z: the first and the last of each letter");
        for (int p : new int[] {5, 23}) {
            for (int letter = 0; letter < 3; letter++) {
                // a letter less v is 0 in one plane, v 0 and P - 1 being the edges
                for (int v : new int[] {0, 1, p - 1}) {
                    SealedBox x = Checks.withField(p);
                    x.term(0, 1, letter == 0 ? 1 : 0, letter == 1 ? 1 : 0, letter == 2 ? 1 : 0);
                    if (v != 0) {
                        x.term(0, p - v, 0, 0, 0);
                        x.term(1, p - v, 0, 0, 0);
                    }
                    due("ZEROS", x.zeros(0), p * p);
                    due("MEET", x.meet(), p * p);
                }
            }
        }
        CHECKS.sentence("16 zeros: BAD, ahead of STATE; at most 23 too");
        for (int p : new int[] {5, 23, 29, 997}) {
            SealedBox x = Checks.withField(p);
            for (int box : new int[] {LEAST, -1, 2, 3, MOST}) {
                due("zeros(" + box + ")", x.zeros(box), BAD);
            }
        }
    }

    private static void zerosByKind() {
        CHECKS.sentence("ZEROS, MEET: it answers by its KIND, each BOX by its own; THE SCALE may be 0");
        SealedBox x = Checks.withField(23);
        x.term(0, 1, 1, 0, 0);
        x.term(1, 1, 1, 0, 0);
        due("alike", x.meet(), 23 * 23 * 23);
        x.set(2, 1);
        due("x and x + 1", x.meet(), 0);
        due("x + 1", x.zeros(0), 23 * 23);
        x.set(0, 23);
        due("a SHIFT of 23", x.meet(), 23 * 23 * 23);
        x.set(2, 2);
        due("8 x and x", x.meet(), 23 * 23);
        x.set(1, 23);
        due("0 and x", x.meet(), 23 * 23);
        due("0", x.zeros(0), 23 * 23 * 23);
        x.set(1, 24);
        due("a SCALE of 24", x.meet(), 23 * 23 * 23);
        CHECKS.sentence("(Neither counts as ASKS.)");
        Checks.Deed boxes = y -> {
            y.field(23);
            y.ask(0, 1, 1, 1);
            y.term(0, 1, 1, 0, 0);
            y.say(22);
        };
        CHECKS.changesOnly("zeros(0)", boxes, y -> y.zeros(0), 23 * 23, 0, 0);
        CHECKS.changesOnly("zeros(1)", boxes, y -> y.zeros(1), 23 * 23 * 23, 0, 0);
        CHECKS.changesOnly("meet()", boxes, y -> y.meet(), 23 * 23, 0, 0);
    }

    public static void main(String[] args) {
        howManyTerms();
        coefficients();
        eachKeyAlone();
        noTerms();
        notJustLKeys();
        twoOfOneNumber();
        theNinth();
        aboveFour();
        rowNotAtHand();
        whatAndI();
        rightBounds();
        zerosAndMeetBounds();
        zerosByKind();
        CHECKS.end();
    }
}
