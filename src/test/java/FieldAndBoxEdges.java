/** The boundary cases that the document names for the field, the boxes, the forms and what is counted, by sentence. */
public final class FieldAndBoxEdges {
    private static final int BAD = Checks.BAD, FULL = Checks.FULL, LEAST = Checks.LEAST, MOST = Checks.MOST;
    private static final Checks CHECKS = new Checks("FieldAndBoxEdges");
    private static final int[] FIELDS = {5, 7, 101, 991, 997};
    private static final int[] NO_BOX = {LEAST, -1, 2, 3, MOST};

    private static void due(String what, long got, long want) {
        CHECKS.due(what, got, want);
    }

    // ---- promise 1

    private static void aNewObject() {
        CHECKS.sentence("1 SealedBox(): P 101, empty BOXES, an empty ROW");
        SealedBox x = new SealedBox();
        int[] counts = {101, 0, 0, 0, 0};
        for (int what = 0; what < counts.length; what++) {
            due("count(" + what + ")", x.count(what), counts[what]);
        }
        due("ask of box 0", x.ask(0, 100, 100, 100), 0);
        due("ask of box 1", x.ask(1, 100, 100, 100), 0);
        due("empty(0)", x.empty(0), 0);
        due("empty(1)", x.empty(1), 0);
        due("change(0, 0)", x.change(0, 0), BAD);
        due("clear()", x.clear(), 0);
        CHECKS.sentence("a new object has nothing of another one");
        x.field(7);
        x.set(0, 9);
        x.set(1, 9);
        x.set(2, 2);
        x.set(3, 2);
        x.term(0, 1, 1, 1, 1);
        x.term(1, 1, 1, 1, 1);
        x.say(1);
        x.form(2, 1, 1);
        CHECKS.changesOnly("another object", y -> { }, y -> y.count(0), 101, 0, 0);
        SealedBox y = new SealedBox();
        due("set(0, 1)", y.set(0, 1), 1);
        due("set(1, 2)", y.set(1, 2), 2);
        due("set(2, 0)", y.set(2, 0), 0);
        due("set(3, 0)", y.set(3, 0), 0);
        due("trace()", y.trace(), 0);
    }

    // ---- promise 2

    private static void aPrime5To997() {
        CHECKS.sentence("1 THE FIELD has P numbers, P a prime 5 .. 997 (101 at first)");
        SealedBox x = new SealedBox();
        for (int p : new int[] {LEAST, -101, -5, -1, 0, 1, 2, 3, 4, 998, 999, 1000, 1009, 1013, MOST}) {
            due("field(" + p + ")", x.field(p), BAD);
        }
        due("field(5)", x.field(5), 101);
        due("field(997)", x.field(997), 5);
        due("field(991)", x.field(991), 997);
        boolean[] composite = new boolean[1200];
        for (int d = 2; d < composite.length; d++) {
            for (int n = 2 * d; n < composite.length; n += d) {
                composite[n] = true;
            }
        }
        int was = 101;
        for (int p = 0; p < composite.length; p++) {
            if (p % 250 == 0) {
                x = new SealedBox();
                was = 101;
            }
            boolean taken = p >= 5 && p <= 997 && !composite[p];
            due("field(" + p + ")", x.field(p), taken ? was : BAD);
            was = taken ? p : was;
            due("count(0) behind field(" + p + ")", x.count(0), was);
        }
    }

    private static void fieldEmpties() {
        CHECKS.sentence("2 field: BOXES, the ROW are empty then: what P was");
        for (int p : new int[] {5, 101, 997}) {
            SealedBox x = filledToTheBrim();
            due("field(" + p + ")", x.field(p), 101);
            due("P", x.count(0), p);
            for (int what = 1; what <= 3; what++) {
                due("count(" + what + ") behind field(" + p + ")", x.count(what), 0);
            }
            due("box 0 answers", x.ask(0, 1, 1, 1), 0);
            due("box 1 answers", x.ask(1, 1, 1, 1), 0);
            due("the row's register", x.register(0), 0);
            due("the row's first number", x.far(0), 0);
            due("a term's number", x.term(0, 1, 0, 0, 0), 0);
            due("how many the row has", x.say(1), 1);
        }
        CHECKS.sentence("2 field: (KINDS, SHIFT, SCALE, ASKS stay)");
        for (int p : new int[] {5, 101, 997}) {
            SealedBox x = filledToTheBrim();
            x.field(p);
            due("ASKS", x.count(4), 2);
            due("THE TRACE", x.trace(), 111);
            due("KIND of box 0", x.set(2, 0), 1);
            due("KIND of box 1", x.set(3, 0), 2);
            due("THE SHIFT", x.set(0, 0), 996);
            due("THE SCALE", x.set(1, 1), 995);
        }
        CHECKS.sentence("2 field: a KIND that stays is that of the box's answers");
        SealedBox x = filledToTheBrim();
        x.field(997);
        x.term(0, 1, 1, 0, 0);
        x.term(1, 1, 1, 0, 0);
        due("box 0, SHIFTED", x.ask(0, 3, 0, 0), 2);
        due("box 1, SCALED", x.ask(1, 3, 0, 0), 995L * 995 % 997 * 995 % 997 * 2 % 997);
    }

    private static SealedBox filledToTheBrim() {
        SealedBox x = new SealedBox();
        for (int i = 0; i < 4; i++) {
            x.term(0, 100 - i, i, i, i);
            x.term(1, 1 + i, i, 4, 0);
        }
        for (int i = 0; i < 16; i++) {
            x.say(100 - i);
        }
        x.set(0, 996);
        x.set(1, 995);
        x.set(2, 1);
        x.set(3, 2);
        x.form(2, 3, 3);
        x.ask(0, 1, 2, 3);
        x.ask(1, 1, 2, 3);
        return x;
    }

    private static void reckonedModuloP() {
        CHECKS.sentence("all is reckoned modulo P, told as 0 .. P - 1");
        for (int p : FIELDS) {
            SealedBox x = Checks.withField(p);
            x.term(0, p - 1, 0, 0, 0);
            due("P - 1", x.ask(0, 0, 0, 0), p - 1);
            x.term(0, 1, 0, 0, 0);
            due("P - 1 and 1", x.ask(0, 0, 0, 0), 0);
            x.term(0, 1, 0, 0, 0);
            due("P and 1", x.ask(0, 0, 0, 0), 1);
            x.empty(0);
            for (int i = 0; i < 4; i++) {
                x.term(0, p - 1, 4, 4, 3);
            }
            due("four times P - 1, to odd powers", x.ask(0, p - 1, p - 1, p - 1), 4);
            due("four times P - 1, to even powers", x.ask(0, p - 1, p - 1, 1), p - 4);
            for (int e = 0; e <= 4; e++) {
                due("P - 1 to " + e, x.form(0, p - 1, e), e % 2 == 0 ? 1 : p - 1);
            }
        }
    }

    // ---- promise 3

    private static void shift0To996() {
        CHECKS.sentence("THE SHIFT (0 .. 996, modulo P; 1 at first)");
        for (int p : FIELDS) {
            SealedBox x = Checks.withField(p);
            due("form by the first SHIFT", x.form(1, 0, 1), 1);
            due("form, gone round", x.form(1, p - 1, 1), 0);
            due("1 at first", x.set(0, 0), 1);
            due("form by 0", x.form(1, p - 1, 1), p - 1);
            due("the most", x.set(0, 996), 0);
            due("form by the most", x.form(1, 0, 1), 996 % p);
            due("form by the most, of the most", x.form(1, p - 1, 1), (996 + p - 1) % p);
            for (int v : new int[] {LEAST, -1, 997, 1000, MOST}) {
                due("set(0, " + v + ")", x.set(0, v), BAD);
            }
            due("it is as it was", x.set(0, 1), 996);
        }
        CHECKS.sentence("THE SHIFT of P is 0 in that field, and P again in another");
        SealedBox x = Checks.withField(7);
        x.set(0, 7);
        due("7 modulo 7", x.form(1, 3, 1), 3);
        x.field(11);
        due("7 modulo 11", x.form(1, 3, 1), 10);
        due("7 modulo 11, gone round", x.form(1, 4, 1), 0);
        due("7", x.set(0, 0), 7);
    }

    private static void scale1To996() {
        CHECKS.sentence("THE SCALE (1 .. 996, modulo P, which may be 0; 2 at first)");
        for (int p : FIELDS) {
            SealedBox x = Checks.withField(p);
            x.set(0, 0);
            due("form by the first SCALE", x.form(2, 1, 1), 2);
            due("2 at first", x.set(1, 1), 2);
            due("form by 1", x.form(2, p - 1, 1), p - 1);
            due("the most", x.set(1, 996), 1);
            due("form by the most", x.form(2, 1, 1), 996 % p);
            for (int v : new int[] {LEAST, -1, 0, 997, 1000, MOST}) {
                due("set(1, " + v + ")", x.set(1, v), BAD);
            }
            due("it is as it was", x.set(1, 1), 996);
        }
        CHECKS.sentence("THE SCALE modulo P may be 0: each form is 0 then, whatever e is");
        SealedBox x = Checks.withField(83);
        x.set(1, 996);
        x.set(3, 2);
        x.term(1, 5, 0, 0, 0);
        for (int e = 0; e <= 4; e++) {
            due("form(2, 5, " + e + ")", x.form(2, 5, e), 0);
        }
        due("a box's answer", x.ask(1, 1, 2, 3), 0);
        x.field(89);
        due("996 modulo 89", x.form(2, 0, 0), 996 % 89);
    }

    private static void kinds0To2() {
        CHECKS.sentence("BASES are of KINDS: 0 POWER (of each BOX at first), 1 SHIFTED, 2 SCALED");
        SealedBox x = new SealedBox();
        x.term(0, 1, 1, 0, 0);
        x.term(1, 1, 1, 0, 0);
        due("box 0 at first", x.ask(0, 5, 0, 0), 5);
        due("box 1 at first", x.ask(1, 5, 0, 0), 5);
        for (int what = 2; what <= 3; what++) {
            due("at first", x.set(what, 2), 0);
            for (int v : new int[] {LEAST, -1, 3, 4, MOST}) {
                due("set(" + what + ", " + v + ")", x.set(what, v), BAD);
            }
            due("it is as it was", x.set(what, 1), 2);
            due("and again", x.set(what, 0), 1);
        }
        CHECKS.sentence("3 set: the KIND of BOX 0 (2), of BOX 1 (3) becomes v, each its own");
        x.set(2, 1);
        due("box 0, SHIFTED", x.ask(0, 5, 0, 0), 6);
        due("box 1, POWER yet", x.ask(1, 5, 0, 0), 5);
        x.set(3, 2);
        due("box 1, SCALED", x.ask(1, 5, 0, 0), 6 * 2 * 2 * 2);
        due("box 0, SHIFTED yet", x.ask(0, 5, 0, 0), 6);
        CHECKS.sentence("3 set: what is 0 .. 3");
        for (int what : new int[] {LEAST, -1, 4, 5, MOST}) {
            due("set(" + what + ", 1)", x.set(what, 1), BAD);
        }
    }

    // ---- promises 4, 19

    private static void formBounds() {
        CHECKS.sentence("4 form: BAD: numbers 0 .. P - 1, e 0 .. 4");
        for (int p : FIELDS) {
            SealedBox x = Checks.withField(p);
            for (int kind = 0; kind <= 2; kind++) {
                int shift = kind == 0 ? 0 : 1, scale = kind == 2 ? 2 : 1;
                for (int e = 0; e <= 4; e++) {
                    due("form of 0", x.form(kind, 0, e), scale * Checks.raised(shift, e, p));
                    due("form of P - 1", x.form(kind, p - 1, e), scale * Checks.raised((p - 1 + shift) % p, e, p) % p);
                }
                for (int v : new int[] {LEAST, -1, p, p + 1, MOST}) {
                    due("form of " + v, x.form(kind, v, 1), BAD);
                }
                for (int e : new int[] {LEAST, -1, 5, 6, MOST}) {
                    due("form by " + e, x.form(kind, 1, e), BAD);
                }
            }
            for (int kind : new int[] {LEAST, -1, 3, 4, MOST}) {
                due("form of the kind " + kind, x.form(kind, 1, 1), BAD);
            }
        }
        CHECKS.sentence("POWER v raised to e (1 where e is 0)");
        SealedBox x = Checks.withField(5);
        due("0 to 0", x.form(0, 0, 0), 1);
        due("0 to 1", x.form(0, 0, 1), 0);
        due("0 to 4", x.form(0, 0, 4), 0);
        due("4 and 1, to 0", x.form(1, 4, 0), 1);
        due("4 and 1, to 1", x.form(1, 4, 1), 0);
        due("twice 4 and 1, to 0", x.form(2, 4, 0), 2);
        due("twice 4 and 1, to 1", x.form(2, 4, 1), 0);
        x.term(0, 3, 0, 0, 0);
        due("a term of no letters, at 0", x.ask(0, 0, 0, 0), 3);
    }

    private static void traceOfForms() {
        CHECKS.sentence("numbers in brackets come to THE TRACE (0 at first) as often as form() asks that body");
        int[] told = {1, 11, 111};
        SealedBox x = new SealedBox();
        due("at first", x.trace(), 0);
        long sum = 0;
        for (int kind = 0; kind <= 2; kind++) {
            for (int e = 0; e <= 4; e += 4) {
                for (int v = 0; v <= 100; v += 50) {
                    x.form(kind, v, e);
                    sum += told[kind];
                    due("form(" + kind + ", " + v + ", " + e + ")", x.trace(), sum);
                }
            }
        }
        x.field(83);
        x.set(1, 83);
        due("a SCALE of 0 asks up too", x.form(2, 1, 1), 0);
        due("a SCALE of 0", x.trace(), sum + 111);
        CHECKS.sentence("THE TRACE is told of form() alone, and of no form that is refused");
        for (int[] r : new int[][] {{-1, 1, 1}, {3, 1, 1}, {2, -1, 1}, {2, 83, 1}, {2, 1, -1}, {2, 1, 5}}) {
            x.form(r[0], r[1], r[2]);
        }
        x.term(0, 1, 1, 1, 1);
        x.term(1, 1, 1, 1, 1);
        x.set(2, 2);
        x.ask(0, 1, 1, 1);
        x.got(0, 0, 0);
        x.right(0, 1, 1, 1);
        x.field(5);
        x.zeros(0);
        x.meet();
        due("still", x.trace(), sum + 111);
    }

    // ---- promises 5, 6

    private static void fourTerms() {
        CHECKS.sentence("BOXES 0, 1 hold TERMS (4 at most each); 5 term: its number; FULL");
        SealedBox x = new SealedBox();
        for (int box = 0; box <= 1; box++) {
            for (int i = 0; i < 4; i++) {
                due("term " + i, x.term(box, 1 + i, 0, 0, 0), i);
                due("terms", x.count(1 + box), i + 1);
            }
            due("the fifth", x.term(box, 1, 0, 0, 0), FULL);
            due("terms", x.count(1 + box), 4);
            due("what they answer", x.ask(box, 0, 0, 0), 10);
        }
        due("the other box is full yet", x.term(0, 1, 0, 0, 0), FULL);
        CHECKS.sentence("a box that was full takes four terms again when it is empty");
        due("empty(0)", x.empty(0), 4);
        for (int i = 0; i < 4; i++) {
            due("term " + i, x.term(0, 2, 0, 0, 0), i);
        }
        due("the fifth", x.term(0, 2, 0, 0, 0), FULL);
        due("what they answer", x.ask(0, 0, 0, 0), 8);
        CHECKS.sentence("BOXES are 0, 1: there is no other");
        for (int box : NO_BOX) {
            due("term into " + box, x.term(box, 1, 0, 0, 0), BAD);
            due("empty(" + box + ")", x.empty(box), BAD);
            due("ask of " + box, x.ask(box, 1, 1, 1), BAD);
            due("got of " + box, x.got(box, 0, 0), BAD);
            due("right of " + box, x.right(box, 1, 1, 1), BAD);
            due("zeros(" + box + ")", x.zeros(box), BAD);
        }
    }

    private static void coefficients1ToPLess1() {
        CHECKS.sentence("a coefficient 1 .. P - 1");
        for (int p : FIELDS) {
            SealedBox x = Checks.withField(p);
            for (int box = 0; box <= 1; box++) {
                for (int coefficient : new int[] {LEAST, -p, -1, 0, p, p + 1, 2 * p, MOST}) {
                    due("term of " + coefficient, x.term(box, coefficient, 0, 0, 0), BAD);
                }
                due("term of 1", x.term(box, 1, 1, 0, 0), 0);
                due("term of P - 1", x.term(box, p - 1, 0, 1, 0), 1);
                due("what they answer", x.ask(box, 3, 1, 0), 2);
            }
        }
    }

    private static void exponents0To4() {
        CHECKS.sentence("exponents a, b, c (0 .. 4) of the letters x, y, z");
        SealedBox x = Checks.withField(997);
        int[] letters = {2, 3, 5};
        for (int letter = 0; letter < 3; letter++) {
            for (int e = 0; e <= 4; e++) {
                int[] abc = new int[3];
                abc[letter] = e;
                x.empty(0);
                due("term", x.term(0, 1, abc[0], abc[1], abc[2]), 0);
                due("letter " + letter + " to " + e, x.ask(0, 2, 3, 5), Checks.raised(letters[letter], e, 997));
            }
            for (int e : new int[] {LEAST, -1, 5, 6, MOST}) {
                int[] abc = {1, 1, 1};
                abc[letter] = e;
                due("exponent " + e + " of letter " + letter, x.term(1, 1, abc[0], abc[1], abc[2]), BAD);
            }
        }
        due("none came", x.count(2), 0);
        due("all the most", x.term(1, 1, 4, 4, 4), 0);
        due("all the most, at 996", x.ask(1, 996, 996, 996), 1);
    }

    private static void emptyTellsHowMany() {
        CHECKS.sentence("6 empty: A BOX is empty: how many TERMS it had");
        for (int box = 0; box <= 1; box++) {
            for (int terms = 0; terms <= 4; terms++) {
                SealedBox x = new SealedBox();
                for (int i = 0; i < terms; i++) {
                    x.term(box, 5, 1, 1, 1);
                }
                x.term(1 - box, 7, 0, 0, 0);
                due("empty(" + box + ")", x.empty(box), terms);
                due("and again", x.empty(box), 0);
                due("TERMS", x.count(1 + box), 0);
                due("its answer", x.ask(box, 1, 1, 1), 0);
                due("the other's answer", x.ask(1 - box, 1, 1, 1), 7);
            }
        }
    }

    // ---- promises 7, 18

    private static void askBounds() {
        CHECKS.sentence("7 ask: AN ANSWER at x, y, z of 0 .. P - 1. BAD");
        for (int p : FIELDS) {
            SealedBox x = Checks.withField(p);
            x.term(0, 1, 1, 0, 0);
            x.term(0, 1, 0, 1, 0);
            x.term(0, 1, 0, 0, 1);
            due("at 0, 0, 0", x.ask(0, 0, 0, 0), 0);
            due("at P - 1, 0, 0", x.ask(0, p - 1, 0, 0), p - 1);
            due("at 0, P - 1, 0", x.ask(0, 0, p - 1, 0), p - 1);
            due("at 0, 0, P - 1", x.ask(0, 0, 0, p - 1), p - 1);
            due("at P - 1 thrice", x.ask(0, p - 1, p - 1, p - 1), p - 3);
            due("ASKS", x.count(4), 5);
            for (int v : new int[] {LEAST, -1, p, MOST}) {
                due("x " + v, x.ask(0, v, 0, 0), BAD);
                due("y " + v, x.ask(0, 0, v, 0), BAD);
                due("z " + v, x.ask(0, 0, 0, v), BAD);
            }
            due("ASKS, none of a refused ask", x.count(4), 5);
        }
        CHECKS.sentence("AN ANSWER of an empty BOX is 0, by each KIND, and is counted");
        SealedBox x = new SealedBox();
        for (int kind = 0; kind <= 2; kind++) {
            x.set(2, kind);
            due("KIND " + kind, x.ask(0, 100, 100, 100), 0);
            due("ASKS", x.count(4), kind + 1);
        }
    }

    private static void countBounds() {
        CHECKS.sentence("18 count: 0 P, 1 TERMS of BOX 0, 2 of BOX 1, 3 numbers of the ROW, 4 ASKS. BAD");
        SealedBox x = filledToTheBrim();
        int[] full = {101, 4, 4, 16, 2};
        for (int what = 0; what < full.length; what++) {
            due("count(" + what + ")", x.count(what), full[what]);
        }
        x.empty(0);
        due("BOX 0 alone is empty", x.count(1), 0);
        due("BOX 1 is full yet", x.count(2), 4);
        for (int what : new int[] {LEAST, -1, 5, 6, MOST}) {
            due("count(" + what + ")", x.count(what), BAD);
        }
    }

    private static void upTo512Calls() {
        CHECKS.sentence("An object is used for at most 512 calls after it has been made");
        SealedBox x = new SealedBox();
        x.field(997);
        x.term(0, 5, 1, 0, 2);
        for (int i = 0; i < 254; i++) {
            due("right", x.right(0, 996 - i, i, 500), 1);
            due("form", x.form(2, 996, 4), 0);
        }
        due("ASKS, the 511th call", x.count(4), 2540);
        due("THE TRACE, the 512th call", x.trace(), 254 * 111);
    }

    public static void main(String[] args) {
        aNewObject();
        aPrime5To997();
        fieldEmpties();
        reckonedModuloP();
        shift0To996();
        scale1To996();
        kinds0To2();
        formBounds();
        traceOfForms();
        fourTerms();
        coefficients1ToPLess1();
        exponents0To4();
        emptyTellsHowMany();
        askBounds();
        countBounds();
        upTo512Calls();
        CHECKS.end();
    }
}
