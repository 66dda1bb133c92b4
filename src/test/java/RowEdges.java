import java.util.Arrays;

/**
 * The boundary cases that the document names for rows, registers, what they tell far on, and lies, by sentence.
 * The least length is reckoned here by elimination, as the document says what it is, not as it comes.
 */
public final class RowEdges {
    private static final int BAD = Checks.BAD, FULL = Checks.FULL, NONE = Checks.NONE;
    private static final int LEAST = Checks.LEAST, MOST = Checks.MOST;
    private static final int AS_IT_IS = 999000, FARTHEST = 1000000000;
    private static final Checks CHECKS = new Checks("RowEdges");

    private static void due(String what, long got, long want) {
        CHECKS.due(what, got, want);
    }

    private static void dueRegister(SealedBox x, int... g) {
        due("L", x.register(0), g.length);
        for (int k = 1; k <= g.length; k++) {
            due("g(" + k + ")", x.register(k), g[k - 1]);
        }
        due("g above L", x.register(g.length + 1), BAD);
        due("g below 0", x.register(-1), BAD);
    }

    // ---- promises 8, 9, 10

    private static void sixteenNumbers() {
        CHECKS.sentence("2 A ROW of numbers (16 at most); 8 say: how many it has; FULL");
        SealedBox x = Checks.withField(997);
        for (int round = 0; round < 2; round++) {
            for (int i = 0; i < 16; i++) {
                due("say", x.say(996 - i), i + 1);
                due("numbers", x.count(3), i + 1);
            }
            due("the 17th", x.say(1), FULL);
            due("the 17th, 0", x.say(0), FULL);
            due("numbers", x.count(3), 16);
            for (int i = 0; i < 16; i++) {
                due("number " + i, x.far(i), 996 - i);
            }
            due("clear()", x.clear(), 16);
        }
    }

    private static void numbersOfTheField() {
        CHECKS.sentence("8 say: A number 0 .. P - 1 comes to the ROW. BAD");
        for (int p : new int[] {5, 101, 997}) {
            SealedBox x = Checks.withField(p);
            for (int v : new int[] {LEAST, -1, p, p + 1, MOST}) {
                due("say(" + v + ")", x.say(v), BAD);
            }
            due("numbers", x.count(3), 0);
            due("say(0)", x.say(0), 1);
            due("say(P - 1)", x.say(p - 1), 2);
            due("the first", x.far(0), 0);
            due("the second", x.far(1), p - 1);
        }
    }

    private static void changeBounds() {
        CHECKS.sentence("9 change: A number of the ROW becomes v: what it was. BAD (no such place)");
        for (int numbers = 0; numbers <= 16; numbers++) {
            SealedBox x = new SealedBox();
            for (int i = 0; i < numbers; i++) {
                x.say(i + 1);
            }
            for (int place : new int[] {LEAST, -1, numbers, numbers + 1, 16, 17, MOST}) {
                due("change(" + place + ", 1) of " + numbers, x.change(place, 1), BAD);
            }
            for (int place = 0; place < numbers; place++) {
                due("change(" + place + ", 100)", x.change(place, 100), place + 1);
                due("change(" + place + ", 0)", x.change(place, 0), 100);
            }
            due("numbers", x.count(3), numbers);
        }
        CHECKS.sentence("9 change: v is 0 .. P - 1. BAD");
        SealedBox x = Checks.withField(7);
        CHECKS.sayAll(x, 1, 2, 3);
        for (int v : new int[] {LEAST, -1, 7, 8, MOST}) {
            for (int place = 0; place < 3; place++) {
                due("change(" + place + ", " + v + ")", x.change(place, v), BAD);
            }
        }
        due("v 0", x.change(0, 0), 1);
        due("v P - 1", x.change(2, 6), 3);
        due("the one between stays", x.far(1), 2);
        CHECKS.sentence("9 change: a place that was cleared is none of the ROW");
        x.clear();
        x.say(5);
        due("change(1, 1)", x.change(1, 1), BAD);
        due("change(0, 1)", x.change(0, 1), 5);
    }

    private static void clearTellsHowMany() {
        CHECKS.sentence("10 clear: The ROW is empty: how many it had");
        for (int numbers = 0; numbers <= 16; numbers++) {
            SealedBox x = new SealedBox();
            for (int i = 0; i < numbers; i++) {
                x.say(7);
            }
            due("clear()", x.clear(), numbers);
            due("and again", x.clear(), 0);
            due("numbers", x.count(3), 0);
            due("L", x.register(0), 0);
            due("far(0)", x.far(0), 0);
            due("say", x.say(1), 1);
        }
    }

    // ---- promise 11

    private static void shortAndLongRegisters() {
        CHECKS.sentence("11 register: L (i = 0), g(i) (1 .. L). BAD");
        SealedBox x = new SealedBox();
        CHECKS.sayAll(x, 0, 1, 1, 2, 3, 5);
        dueRegister(x, 1, 1);
        due("register(least)", x.register(LEAST), BAD);
        due("register(most)", x.register(MOST), BAD);
        due("register(17)", x.register(17), BAD);
        CHECKS.sentence("the least length L (0 .. ): of an empty ROW and of zeros it is 0");
        x.clear();
        dueRegister(x);
        for (int i = 0; i < 16; i++) {
            x.say(0);
            dueRegister(x);
        }
        CHECKS.sentence("the least length L: zeros, and the last number is none: it is as many as the ROW has");
        for (int zeros = 0; zeros < 16; zeros++) {
            int[] late = new int[zeros + 1], g = new int[zeros + 1];
            late[zeros] = 7;
            g[zeros] = 7;
            CHECKS.sayAll(x = new SealedBox(), late);
            dueRegister(x, g);
        }
        CHECKS.sentence("the least length L: g(L) may be 0");
        CHECKS.sayAll(x, 5, 0, 0, 0);
        dueRegister(x, 0);
        CHECKS.sayAll(x, 5, 1, 2, 4, 8);
        dueRegister(x, 2, 0);
    }

    private static void stepByStep() {
        CHECKS.sentence("if 2 L is at most n: L is n and 1 less L (2 L is n; 2 L is above n)");
        SealedBox x = new SealedBox();
        CHECKS.sayAll(x, 1);
        dueRegister(x, 1);
        x.say(2);
        dueRegister(x, 2);
        x.say(4);
        dueRegister(x, 2);
        x.change(2, 5);
        dueRegister(x, 2, 1);
        x.say(13);
        dueRegister(x, 3, 100);
        CHECKS.sentence("if e is 0, m is one more: FORMER is moved m places");
        CHECKS.sayAll(x, 1, 0, 0, 5);
        dueRegister(x, 0, 0, 5);
        CHECKS.sayAll(x, 1, 1, 1, 1, 3);
        dueRegister(x, 1, 0, 0, 2);
        CHECKS.sentence("c becomes c less e by f times FORMER: of f other than 1");
        CHECKS.sayAll(x, 3, 0, 0, 5, 0, 0);
        dueRegister(x, 0, 0, 5 * 34 % 101);
    }

    /** Whether numbers g(1) .. g(length) make each number of the row from that place on; by elimination. */
    private static boolean someRegister(int[] row, int length, int p) {
        int equations = row.length - length, pivot = 0;
        long[][] m = new long[Math.max(equations, 0)][length + 1];
        for (int i = 0; i < equations; i++) {
            for (int k = 1; k <= length; k++) {
                m[i][k - 1] = row[i + length - k];
            }
            m[i][length] = row[i + length];
        }
        for (int column = 0; column <= length && pivot < equations; column++) {
            int at = pivot;
            while (at < equations && m[at][column] == 0) {
                at++;
            }
            if (at == equations) {
                continue;
            }
            if (column == length) {
                return false;
            }
            long[] swap = m[at];
            m[at] = m[pivot];
            m[pivot] = swap;
            for (int i = pivot + 1; i < equations; i++) {
                long up = m[pivot][column], down = m[i][column];
                for (int j = column; j <= length; j++) {
                    m[i][j] = Math.floorMod(m[i][j] * up - m[pivot][j] * down, (long) p);
                }
            }
            pivot++;
        }
        return true;
    }

    private static int leastLength(int[] row, int p) {
        int length = 0;
        while (!someRegister(row, length, p)) {
            length++;
        }
        return length;
    }

    private static int leastLie(int[] row, int p, int h) {
        if (someRegister(row, h, p)) {
            return AS_IT_IS;
        }
        for (int place = 0; place < row.length; place++) {
            for (int v = 0; v < p; v++) {
                int[] mended = row.clone();
                mended[place] = v;
                if (someRegister(mended, h, p)) {
                    return place * 1000 + v;
                }
            }
        }
        return NONE;
    }

    /** All rows of so many numbers of the field of 5. */
    private static void everyRow(int numbers, boolean lies) {
        int rows = (int) Math.pow(5, numbers);
        for (int code = 0; code < rows; code++) {
            int[] row = new int[numbers];
            SealedBox x = Checks.withField(5);
            for (int i = 0, rest = code; i < numbers; i++, rest /= 5) {
                row[i] = rest % 5;
                x.say(row[i]);
            }
            String what = Arrays.toString(row);
            if (lies) {
                for (int h = 0; h <= 7; h++) {
                    due(what + " lie(" + h + ")", x.lie(h), leastLie(row, 5, h));
                }
            } else {
                dueGenerates(what, x, row, 5);
            }
        }
    }

    /** The register is the shortest, makes the row, and goes on as it is told. */
    private static void dueGenerates(String what, SealedBox x, int[] row, int p) {
        int length = x.register(0);
        due(what + " L", length, leastLength(row, p));
        int[] g = new int[length + 1], all = Arrays.copyOf(row, row.length + 20);
        for (int k = 1; k <= length; k++) {
            g[k] = x.register(k);
        }
        for (int n = length; n < all.length; n++) {
            long sum = 0;
            for (int k = 1; k <= length; k++) {
                sum += (long) g[k] * all[n - k];
            }
            if (n < row.length) {
                due(what + " place " + n, row[n], sum % p);
            }
            all[n] = (int) (sum % p);
        }
        for (int n = 0; n < all.length; n++) {
            due(what + " far(" + n + ")", x.far(n), all[n]);
        }
    }

    private static void everyShortRow() {
        CHECKS.sentence("the least length L so that each number of the ROW from place L on is the sum of g(k) times..");
        for (int numbers = 0; numbers <= 5; numbers++) {
            everyRow(numbers, false);
        }
        CHECKS.sentence("told is the least place, then the least number; -9: there is none; 999000: the ROW is so as it is");
        for (int numbers = 0; numbers <= 4; numbers++) {
            everyRow(numbers, true);
        }
    }

    /** Rows of sixteen that registers of each length make, the only ones as 2 L is at most 16. */
    private static void theOnlyRegister() {
        CHECKS.sentence("(it is the only one where 2 L is at most as many numbers as the ROW has)");
        for (int p : new int[] {101, 997}) {
            for (int length = 1; length <= 8; length++) {
                int[] g = drawnRegister(length, p), row = rowOf(g, 2 * length, p);
                SealedBox x = Checks.withField(p);
                CHECKS.sayAll(x, row);
                dueRegister(x, g);
            }
        }
    }

    private static int[] drawnRegister(int length, int p) {
        int[] g = new int[length];
        for (int k = 0; k < length; k++) {
            g[k] = (37 * k * k + 11 * k + 5 + length) % p;
        }
        return g;
    }

    /** Zeros and a 1, then as the register tells: no shorter one makes this row. */
    private static int[] rowOf(int[] g, int numbers, int p) {
        int[] row = new int[numbers];
        for (int n = 0; n < numbers; n++) {
            long sum = n == g.length - 1 ? 1 : 0;
            for (int k = 1; k <= g.length && n >= g.length; k++) {
                sum += (long) g[k - 1] * row[n - k];
            }
            row[n] = (int) (sum % p);
        }
        return row;
    }

    /** Numbers of no order, then as the register tells. */
    private static int[] drawnRow(int[] g, int numbers, int p) {
        int[] row = new int[numbers];
        for (int n = 0; n < numbers; n++) {
            long sum = n < g.length ? 17 * n * n * n + 5 * n + 3 : 0;
            for (int k = 1; k <= g.length && n >= g.length; k++) {
                sum += (long) g[k - 1] * row[n - k];
            }
            row[n] = (int) (sum % p);
        }
        return row;
    }

    // ---- promise 12

    private static void farBounds() {
        CHECKS.sentence("FAR n (0 .. 1000000000). BAD");
        SealedBox x = new SealedBox();
        for (int round = 0; round < 2; round++) {
            for (int n : new int[] {LEAST, -1, FARTHEST + 1, MOST}) {
                due("far(" + n + ")", x.far(n), BAD);
            }
            due("far(0)", x.far(0), round == 0 ? 0 : 3);
            due("far(1000000000)", x.far(FARTHEST), round == 0 ? 0 : 3);
            CHECKS.sayAll(x, 3, 3);
        }
        CHECKS.sentence("FAR: of places in the ROW the number there");
        for (int numbers = 1; numbers <= 16; numbers++) {
            int[] row = new int[numbers];
            for (int i = 0; i < numbers; i++) {
                row[i] = 100 - i * i % 31;
            }
            CHECKS.sayAll(x = new SealedBox(), row);
            for (int i = 0; i < numbers; i++) {
                due("far(" + i + ") of " + numbers, x.far(i), row[i]);
            }
            dueGenerates(Arrays.toString(row), x, row, 101);
        }
        CHECKS.sentence("FAR: the first place that is not in the ROW");
        CHECKS.sayAll(x = Checks.withField(7), 3);
        due("far(0)", x.far(0), 3);
        due("far(1)", x.far(1), 2);
        CHECKS.sayAll(x, 1, 1, 2, 3, 5, 1, 6, 0, 6, 6, 5, 4, 2, 6, 1, 0);
        due("far(15)", x.far(15), 0);
        due("far(16)", x.far(16), 1);
        due("far(17)", x.far(17), 1);
        due("far(18)", x.far(18), 2);
        CHECKS.sentence("FAR: of a register of length 0 it is 0");
        for (int zeros = 0; zeros <= 16; zeros++) {
            CHECKS.sayAll(x = new SealedBox(), new int[zeros]);
            for (int n : new int[] {0, 15, 16, 17, FARTHEST - 1, FARTHEST}) {
                due("far(" + n + ")", x.far(n), 0);
            }
        }
    }

    /** Far places, by powers of a matrix: another way than the class goes. */
    private static int farByMatrix(int[] g, int[] row, int n, int p) {
        int size = g.length;
        long[][] step = new long[size][size], all = new long[size][size];
        for (int i = 0; i < size; i++) {
            all[i][i] = 1;
            for (int j = 0; j < size; j++) {
                step[i][j] = i == size - 1 ? g[size - 1 - j] : j == i + 1 ? 1 : 0;
            }
        }
        for (int rest = n; rest > 0; rest /= 2) {
            all = rest % 2 == 1 ? product(all, step, p) : all;
            step = product(step, step, p);
        }
        long sum = 0;
        for (int j = 0; j < size; j++) {
            sum += all[0][j] * row[j];
        }
        return (int) (sum % p);
    }

    private static long[][] product(long[][] a, long[][] b, int p) {
        long[][] c = new long[a.length][a.length];
        for (int i = 0; i < a.length; i++) {
            for (int j = 0; j < a.length; j++) {
                for (int k = 0; k < a.length; k++) {
                    c[i][j] = (c[i][j] + a[i][k] * b[k][j]) % p;
                }
            }
        }
        return c;
    }

    private static void farthestPlaces() {
        CHECKS.sentence("FAR: the n-th number by ITS REGISTER, of each length, as far as 1000000000");
        for (int p : new int[] {5, 101, 997}) {
            for (int round = 1; round <= 32; round++) {
                int drawn = (round + 1) / 2;
                int[] row = round % 2 == 0 ? rowOf(drawnRegister(drawn, p), 16, p) : drawnRow(drawnRegister(drawn, p), 16, p);
                SealedBox x = Checks.withField(p);
                CHECKS.sayAll(x, row);
                int length = x.register(0);
                due("L", length, round % 2 == 0 ? drawn : leastLength(row, p));
                int[] g = new int[length];
                for (int k = 1; k <= length; k++) {
                    g[k - 1] = x.register(k);
                }
                for (int n : new int[] {16, 31, 32, 33, 1 << 29, (1 << 29) - 1, FARTHEST - 1, FARTHEST}) {
                    due("far(" + n + ") by " + length + ", P " + p, x.far(n), farByMatrix(g, row, n, p));
                }
            }
        }
    }

    // ---- promise 13

    private static void lieBounds() {
        CHECKS.sentence("A LIE for a bound h (0 .. 7). BAD");
        SealedBox x = new SealedBox();
        for (int round = 0; round < 2; round++) {
            for (int h : new int[] {LEAST, -1, 8, 9, 16, MOST}) {
                due("lie(" + h + ")", x.lie(h), BAD);
            }
            CHECKS.sayAll(x, 0, 0, 0, 0, 0, 0, 0, 0, 0, 0, 0, 0, 0, 0, 0, 9);
            due("h 0", x.lie(0), 15000);
            due("h 7", x.lie(7), 15000);
        }
        CHECKS.sentence("A LIE: 999000: the ROW is so as it is (L is h, and an empty ROW)");
        for (int length = 0; length <= 7; length++) {
            int[] row = length == 0 ? new int[16] : rowOf(drawnRegister(length, 101), 16, 101);
            CHECKS.sayAll(x = new SealedBox(), row);
            due("L", x.register(0), length);
            due("h is L", x.lie(length), AS_IT_IS);
            due("h is 7", x.lie(7), AS_IT_IS);
            due("h is L less 1", x.lie(length - 1), length == 0 ? BAD : leastLie(row, 101, length - 1));
            x.clear();
            due("an empty ROW", x.lie(length), AS_IT_IS);
        }
        CHECKS.sentence("A LIE: ITS REGISTER's length is one above h: h 7, L 8");
        int[] row = rowOf(drawnRegister(8, 101), 16, 101);
        CHECKS.sayAll(x, row);
        due("L", x.register(0), 8);
        due("lie(7)", x.lie(7), leastLie(row, 101, 7));
    }

    private static void liesTold() {
        CHECKS.sentence("A LIE: told as place times 1000 and number: the least place and number, the most of each");
        SealedBox x = new SealedBox();
        CHECKS.sayAll(x, 5);
        due("place 0, number 0", x.lie(0), 0);
        CHECKS.sayAll(x, 1, 5, 1, 100, 1, 100, 1, 100);
        due("place 1, number P - 1", x.lie(1), 1100);
        int[] signs = new int[16];
        for (int i = 0; i < 15; i++) {
            signs[i] = i % 2 == 0 ? 1 : 996;
        }
        x.field(997);
        CHECKS.sayAll(x, signs);
        due("place 15, number 996", x.lie(1), 15996);
        x.change(15, 996);
        x.change(0, 4);
        due("place 0, number 1", x.lie(1), 1);
        CHECKS.sentence("A LIE: the least place, though another place mends it too");
        CHECKS.sayAll(x, 1, 2, 5);
        due("at 0, 1, 2", x.lie(1), leastLie(new int[] {1, 2, 5}, 997, 1));
        CHECKS.sayAll(x, 0, 0, 5);
        due("at 0, though 2 mends it", x.lie(2), 1);
        due("at 2 alone", x.lie(1), 2000);
        CHECKS.sentence("A LIE: the least number, though another number mends it too");
        CHECKS.sayAll(x, 0, 5);
        due("1 .. P - 1 mend it", x.lie(1), 1);
        CHECKS.sentence("A LIE: -9: there is none");
        CHECKS.sayAll(x, 4, 5);
        due("two numbers for h 0", x.lie(0), NONE);
        CHECKS.sayAll(x, 1, 2, 3, 5, 8, 14, 1, 2, 3, 5, 8, 14, 9, 9, 7, 1);
        for (int h = 0; h <= 7; h++) {
            int[] row = {1, 2, 3, 5, 8, 14, 1, 2, 3, 5, 8, 14, 9, 9, 7, 1};
            due("lie(" + h + ")", x.lie(h), leastLie(row, 997, h));
        }
        due("lie(6)", x.lie(6), NONE);
    }

    /** A lie at each place of rows of sixteen, for each bound. */
    private static void aLieAtEachPlace() {
        CHECKS.sentence("A LIE: at each place 0 .. 15, for each h 0 .. 7, and mended the ROW is so");
        int p = 31;
        for (int round = 0; round < 16; round++) {
            int length = round % 8;
            int[] honest = length == 0 ? new int[16] : rowOf(drawnRegister(length, p), 16, p);
            if (round > 8) {
                honest = drawnRow(drawnRegister(length, p), 16, p);
            }
            for (int place = 0; place < 16; place++) {
                int[] row = honest.clone();
                row[place] = (row[place] + 7) % p;
                SealedBox x = Checks.withField(p);
                CHECKS.sayAll(x, row);
                for (int h = 0; h <= 7; h++) {
                    due("lie(" + h + ") of " + Arrays.toString(row), x.lie(h), leastLie(row, p, h));
                }
                int told = x.lie(length);
                if (told >= 0 && told != AS_IT_IS) {
                    x.change(told / 1000, told % 1000);
                }
                due("mended", x.lie(length), AS_IT_IS);
            }
        }
    }

    public static void main(String[] args) {
        sixteenNumbers();
        numbersOfTheField();
        changeBounds();
        clearTellsHowMany();
        shortAndLongRegisters();
        stepByStep();
        everyShortRow();
        theOnlyRegister();
        farBounds();
        farthestPlaces();
        lieBounds();
        liesTold();
        aLieAtEachPlace();
        CHECKS.end();
    }
}
