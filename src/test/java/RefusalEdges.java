/**
 * "Refused, and nothing changes (but ASKS by got(), right(), as told), the first of these: BAD, STATE, FULL":
 * each call that can be refused, in objects that are empty, half full and full, with a look at all that stands.
 */
public final class RefusalEdges {
    private static final int BAD = Checks.BAD, STATE = Checks.STATE, FULL = Checks.FULL;
    private static final int LEAST = Checks.LEAST, MOST = Checks.MOST;
    private static final Checks CHECKS = new Checks("RefusalEdges");
    private static final int EMPTY = 0, SOME = 1, BRIM = 2;
    private static final int[] FIELDS = {5, 23, 101, 997};

    /** An object of that field: as new, or with all that can stand in it at hand, or full of it. */
    private static Checks.Deed scene(int p, int fill) {
        return x -> {
            x.field(p);
            if (fill == EMPTY) {
                return;
            }
            x.set(0, 37);
            x.set(1, 996);
            x.set(2, 1);
            x.set(3, 2);
            x.form(2, 1, 3);
            for (int i = 0; i < (fill == BRIM ? 4 : 2); i++) {
                x.term(0, 1 + i, i, 4 - i, i * i % 5);
                x.term(1, p - 1 - i, 4, i, 1);
            }
            for (int i = 0; i < numbers(fill); i++) {
                x.say((i * i + 3 * i + 1) % p);
            }
            x.ask(0, 1, 2, 3);
        };
    }

    private static int numbers(int fill) {
        return fill == EMPTY ? 0 : fill == SOME ? 5 : 16;
    }

    private static void everyScene(String sentence, SceneTest test) {
        CHECKS.sentence(sentence);
        for (int p : FIELDS) {
            for (int fill = EMPTY; fill <= BRIM; fill++) {
                test.in(p, fill);
            }
        }
    }

    private interface SceneTest {
        void in(int p, int fill);
    }

    private static void bad(String what, int p, int fill, Checks.Call call) {
        CHECKS.refused(what + " in the field of " + p + ", fill " + fill, scene(p, fill), call, BAD);
    }

    // ---- BAD

    private static void badFieldAndSet() {
        everyScene("2 field: BAD, and nothing changes", (p, fill) -> {
            for (int n : new int[] {LEAST, -1, 0, 1, 2, 3, 4, 6, 9, 25, 961, 996, 998, 1009, MOST}) {
                bad("field(" + n + ")", p, fill, x -> x.field(n));
            }
        });
        everyScene("3 set: BAD, and nothing changes", (p, fill) -> {
            int[][] refused = {{LEAST, 1}, {-1, 1}, {4, 1}, {MOST, 1}, {0, -1}, {0, 997}, {0, MOST}, {0, LEAST},
                {1, -1}, {1, 0}, {1, 997}, {1, MOST}, {2, -1}, {2, 3}, {2, MOST}, {3, -1}, {3, 3}, {3, LEAST}};
            for (int[] r : refused) {
                bad("set(" + r[0] + ", " + r[1] + ")", p, fill, x -> x.set(r[0], r[1]));
            }
        });
    }

    private static void badForm() {
        everyScene("4 form: BAD, and nothing changes, THE TRACE neither", (p, fill) -> {
            int[][] refused = {{-1, 0, 0}, {3, 0, 0}, {LEAST, 0, 0}, {MOST, 0, 0}, {0, -1, 1}, {0, p, 1}, {1, -1, 1},
                {1, p, 1}, {2, -1, 1}, {2, p, 1}, {0, 1, -1}, {0, 1, 5}, {1, 1, -1}, {1, 1, 5}, {2, 1, -1}, {2, 1, 5}};
            for (int[] r : refused) {
                bad("form(" + r[0] + ", " + r[1] + ", " + r[2] + ")", p, fill, x -> x.form(r[0], r[1], r[2]));
            }
        });
    }

    private static void badTermAndEmpty() {
        everyScene("5 term: BAD, ahead of FULL, and nothing changes", (p, fill) -> {
            int[][] refused = {{-1, 1, 0, 0, 0}, {2, 1, 0, 0, 0}, {0, 0, 0, 0, 0}, {1, 0, 0, 0, 0}, {0, p, 0, 0, 0},
                {1, p, 0, 0, 0}, {0, -1, 0, 0, 0}, {0, MOST, 0, 0, 0}, {0, 1, -1, 0, 0}, {0, 1, 5, 0, 0},
                {1, 1, 0, -1, 0}, {1, 1, 0, 5, 0}, {0, 1, 0, 0, -1}, {0, 1, 0, 0, 5}};
            for (int[] r : refused) {
                bad("term of " + r[1], p, fill, x -> x.term(r[0], r[1], r[2], r[3], r[4]));
            }
        });
        everyScene("6 empty: BAD, and nothing changes", (p, fill) -> {
            for (int box : new int[] {LEAST, -1, 2, MOST}) {
                bad("empty(" + box + ")", p, fill, x -> x.empty(box));
            }
        });
    }

    private static void badAskAndRight() {
        everyScene("7 ask, 15 right: BAD, and nothing changes, ASKS neither", (p, fill) -> {
            int[][] refused = {{-1, 0, 0, 0}, {2, 0, 0, 0}, {0, -1, 0, 0}, {0, p, 0, 0}, {1, 0, -1, 0}, {1, 0, p, 0},
                {0, 0, 0, -1}, {0, 0, 0, p}, {1, LEAST, MOST, 0}};
            for (int[] r : refused) {
                bad("ask", p, fill, x -> x.ask(r[0], r[1], r[2], r[3]));
                bad("right", p, fill, x -> x.right(r[0], r[1], r[2], r[3]));
            }
        });
    }

    private static void badRows() {
        everyScene("8 say: BAD, ahead of FULL, and nothing changes", (p, fill) -> {
            for (int v : new int[] {LEAST, -1, p, MOST}) {
                bad("say(" + v + ")", p, fill, x -> x.say(v));
            }
        });
        everyScene("9 change: BAD, and nothing changes", (p, fill) -> {
            int[][] refused = {{-1, 0}, {numbers(fill), 0}, {16, 0}, {LEAST, 0}, {MOST, 0}, {0, -1}, {0, p}, {4, MOST}};
            for (int[] r : refused) {
                bad("change(" + r[0] + ", " + r[1] + ")", p, fill, x -> x.change(r[0], r[1]));
            }
        });
        everyScene("11 register: BAD, and nothing changes", (p, fill) -> {
            for (int i : new int[] {LEAST, -1, 17, MOST}) {
                bad("register(" + i + ")", p, fill, x -> x.register(i));
            }
            bad("register(L and 1)", p, fill, x -> x.register(x.register(0) + 1));
        });
        everyScene("12 far: BAD, 13 lie: BAD, and nothing changes", (p, fill) -> {
            for (int n : new int[] {LEAST, -1, 1000000001, MOST}) {
                bad("far(" + n + ")", p, fill, x -> x.far(n));
            }
            for (int h : new int[] {LEAST, -1, 8, MOST}) {
                bad("lie(" + h + ")", p, fill, x -> x.lie(h));
            }
        });
    }

    private static void badGotZerosAndCount() {
        everyScene("14 got: BAD of box, what: nothing changes, ASKS neither", (p, fill) -> {
            int[][] refused = {{-1, 0, 0}, {2, 0, 0}, {LEAST, 1, 0}, {MOST, 1, 0}, {0, -1, 0}, {0, 5, 0}, {1, MOST, 0}};
            for (int[] r : refused) {
                bad("got(" + r[0] + ", " + r[1] + ", " + r[2] + ")", p, fill, x -> x.got(r[0], r[1], r[2]));
            }
        });
        everyScene("16 zeros: BAD, ahead of STATE, and nothing changes", (p, fill) -> {
            for (int box : new int[] {LEAST, -1, 2, MOST}) {
                bad("zeros(" + box + ")", p, fill, x -> x.zeros(box));
            }
        });
        everyScene("18 count: BAD, and nothing changes", (p, fill) -> {
            for (int what : new int[] {LEAST, -1, 5, MOST}) {
                bad("count(" + what + ")", p, fill, x -> x.count(what));
            }
        });
    }

    // ---- STATE

    /** In box 0 a term that cannot be told from another, in box 1 one that can; the row is full. */
    private static final Checks.Deed FAILING = x -> {
        x.field(997);
        x.term(0, 1, 0, 1, 0);
        x.term(1, 9, 2, 0, 0);
        for (int i = 0; i < 16; i++) {
            x.say(i * i * i % 997);
        }
    };

    private static void stateOfGotAndRight() {
        CHECKS.sentence("14 got: STATE: nothing changes but nine ASKS");
        for (int what = 0; what <= 4; what++) {
            for (int i : new int[] {LEAST, -1, 0, 1, MOST}) {
                int asked = what;
                CHECKS.changesOnly("got(0, " + what + ", " + i + ")", FAILING, x -> x.got(0, asked, i), STATE, 9, 0);
            }
        }
        CHECKS.sentence("14 got: BAD: also no such TERM: nothing changes but nine ASKS");
        for (int what = 1; what <= 4; what++) {
            for (int i : new int[] {LEAST, -1, 1, 2, MOST}) {
                int asked = what;
                CHECKS.changesOnly("got(1, " + what + ", " + i + ")", FAILING, x -> x.got(1, asked, i), BAD, 9, 0);
                CHECKS.changesOnly("got of an empty BOX", x -> x.say(3), x -> x.got(0, asked, i), BAD, 9, 0);
            }
        }
        CHECKS.sentence("15 right: STATE: nothing changes but ten ASKS");
        CHECKS.changesOnly("right", FAILING, x -> x.right(0, 996, 0, 1), STATE, 10, 0);
    }

    private static void stateOfZerosAndMeet() {
        CHECKS.sentence("16 zeros, 17 meet: STATE: P is above 23, and nothing changes");
        for (int p : new int[] {29, 101, 997}) {
            for (int fill = EMPTY; fill <= BRIM; fill++) {
                CHECKS.refused("zeros(0)", scene(p, fill), x -> x.zeros(0), STATE);
                CHECKS.refused("zeros(1)", scene(p, fill), x -> x.zeros(1), STATE);
                CHECKS.refused("meet()", scene(p, fill), x -> x.meet(), STATE);
            }
        }
    }

    // ---- FULL

    private static void full() {
        CHECKS.sentence("5 term: FULL, and nothing changes");
        for (int p : FIELDS) {
            CHECKS.refused("term into 0", scene(p, BRIM), x -> x.term(0, 1, 0, 0, 0), FULL);
            CHECKS.refused("term into 1", scene(p, BRIM), x -> x.term(1, p - 1, 4, 4, 4), FULL);
        }
        CHECKS.sentence("8 say: FULL, and nothing changes");
        for (int p : FIELDS) {
            CHECKS.refused("say(0)", scene(p, BRIM), x -> x.say(0), FULL);
            CHECKS.refused("say(P - 1)", scene(p, BRIM), x -> x.say(p - 1), FULL);
        }
    }

    // ---- what only tells

    private static void onlyTold() {
        everyScene("register, far, lie, count, trace tell, and change nothing", (p, fill) -> {
            Checks.Deed scene = scene(p, fill);
            Checks.Call[] calls = {x -> x.register(0), x -> x.far(0), x -> x.far(1000000000), x -> x.lie(0),
                x -> x.lie(3), x -> x.lie(7), x -> x.count(0), x -> x.count(4), x -> x.trace()};
            for (Checks.Call call : calls) {
                SealedBox x = new SealedBox();
                scene.on(x);
                CHECKS.changesOnly("a call that tells", scene, call, call.on(x), 0, 0);
            }
        });
        everyScene("form tells and changes THE TRACE alone, ask changes ASKS alone", (p, fill) -> {
            CHECKS.changesOnly("form of POWER", scene(p, fill), x -> x.form(0, 1, 4), 1, 0, 1);
            CHECKS.changesOnly("form of SHIFTED", scene(p, fill), x -> x.form(1, 1, 0), 1, 0, 11);
            int scale = (fill == EMPTY ? 2 : 996) % p;
            CHECKS.changesOnly("form of SCALED", scene(p, fill), x -> x.form(2, 1, 0), scale, 0, 111);
            SealedBox y = new SealedBox();
            scene(p, fill).on(y);
            CHECKS.changesOnly("ask", scene(p, fill), x -> x.ask(1, 1, 2, 3), y.ask(1, 1, 2, 3), 1, 0);
        });
    }

    public static void main(String[] args) {
        badFieldAndSet();
        badForm();
        badTermAndEmpty();
        badAskAndRight();
        badRows();
        badGotZerosAndCount();
        stateOfGotAndRight();
        stateOfZerosAndMeet();
        full();
        onlyTold();
        CHECKS.end();
    }
}
