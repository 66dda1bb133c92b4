/**
 * Polynomials of few terms in three letters over a prime field, known by what they answer:
 * rows of answers, their shortest registers, and terms got back from answers alone.
 *
 * All rows that a call needs are made with the object, so that no call makes new ones.
 */
public final class SealedBox {
    public static final int BAD = -1, STATE = -2, FULL = -3, NONE = -9;

    private static final int FIRST_P = 101, LEAST_P = 5, MOST_P = 997;
    private static final int FIRST_SHIFT = 1, FIRST_SCALE = 2, MOST_SETTING = 996;
    private static final int POWER = 0, SHIFTED = 1, SCALED = 2;
    private static final int MOST_TERMS = 4, MOST_EXPONENT = 4, MOST_ROW = 16;
    private static final int MOST_FAR = 1000000000, FAR_BITS = 30;
    private static final int MOST_BOUND = 7, PLACE_STEP = 1000, AS_IT_IS = 999000;
    private static final int MOST_COUNTED_P = 23;

    private final PrimeField numbers = new PrimeField();
    private final Bases bases = new Bases(numbers);
    private final Box first = new Box(numbers, bases);
    private final Box second = new Box(numbers, bases);
    private final int[] row = new int[MOST_ROW];
    private final Register shortest = new Register(numbers);
    private final Onward onward = new Onward(numbers);
    private final LieSearch lies = new LieSearch(numbers);
    private final Recovery recovery = new Recovery(numbers, bases);
    private int rowLength = 0;
    private int asks = 0;
    private long traced = 0;

    public SealedBox() {
    }

    // ---- the field, boxes

    public int field(int p) {
        int was = numbers.p;
        if (!numbers.become(p)) {
            return BAD;
        }
        first.drop();
        second.drop();
        rowLength = 0;
        return was;
    }

    public int set(int what, int v) {
        switch (what) {
            case 0:
                return setShift(v);
            case 1:
                return setScale(v);
            case 2:
                return setKind(first, v);
            case 3:
                return setKind(second, v);
            default:
                return BAD;
        }
    }

    private int setShift(int v) {
        if (v < 0 || v > MOST_SETTING) {
            return BAD;
        }
        int was = bases.shift;
        bases.shift = v;
        return was;
    }

    private int setScale(int v) {
        if (v < 1 || v > MOST_SETTING) {
            return BAD;
        }
        int was = bases.scale;
        bases.scale = v;
        return was;
    }

    private static int setKind(Box box, int v) {
        if (!isKind(v)) {
            return BAD;
        }
        int was = box.kind;
        box.kind = v;
        return was;
    }

    public int form(int kind, int v, int e) {
        if (!isKind(kind) || !numbers.has(v) || !isExponent(e)) {
            return BAD;
        }
        traced += Bases.bodiesAsked(kind);
        return bases.letter(kind, v, e);
    }

    public int term(int box, int coefficient, int a, int b, int c) {
        if (!isBox(box) || coefficient == 0 || !numbers.has(coefficient)) {
            return BAD;
        }
        if (!isExponent(a) || !isExponent(b) || !isExponent(c)) {
            return BAD;
        }
        Box filled = boxOf(box);
        int number = filled.terms;
        return filled.add(coefficient, a, b, c) ? number : FULL;
    }

    public int empty(int box) {
        if (!isBox(box)) {
            return BAD;
        }
        Box emptied = boxOf(box);
        int had = emptied.terms;
        emptied.drop();
        return had;
    }

    public int ask(int box, int x, int y, int z) {
        if (!isBox(box) || !arePoint(x, y, z)) {
            return BAD;
        }
        asks++;
        return boxOf(box).answer(x, y, z);
    }

    // ---- rows

    public int say(int v) {
        if (!numbers.has(v)) {
            return BAD;
        }
        if (rowLength >= row.length) {
            return FULL;
        }
        row[rowLength] = v;
        rowLength++;
        return rowLength;
    }

    public int change(int place, int v) {
        if (place < 0 || place >= rowLength || place >= row.length || !numbers.has(v)) {
            return BAD;
        }
        int was = row[place];
        row[place] = v;
        return was;
    }

    public int clear() {
        int had = rowLength;
        rowLength = 0;
        return had;
    }

    public int register(int i) {
        shortest.read(row, rowLength);
        if (i < 0 || i > shortest.length) {
            return BAD;
        }
        return i == 0 ? shortest.length : shortest.weight(i);
    }

    public int far(int n) {
        if (n < 0 || n > MOST_FAR) {
            return BAD;
        }
        if (n < rowLength && n < row.length) {
            return row[n];
        }
        shortest.read(row, rowLength);
        return onward.numberAt(n, shortest, row);
    }

    public int lie(int h) {
        if (h < 0 || h > MOST_BOUND) {
            return BAD;
        }
        shortest.read(row, rowLength);
        return shortest.length <= h ? AS_IT_IS : lies.leastMending(row, rowLength, h);
    }

    // ---- got back

    public int got(int box, int what, int i) {
        if (!isBox(box) || what < 0 || what > Box.WIDTH) {
            return BAD;
        }
        asks += Recovery.ASKED;
        if (!recovery.recover(boxOf(box))) {
            return STATE;
        }
        Box found = recovery.found;
        if (what == 0) {
            return found.terms;
        }
        return i < 0 || i >= found.terms ? BAD : found.part(i, what - 1);
    }

    public int right(int box, int x, int y, int z) {
        if (!isBox(box) || !arePoint(x, y, z)) {
            return BAD;
        }
        asks += Recovery.ASKED + 1;
        Box asked = boxOf(box);
        if (!recovery.recover(asked)) {
            return STATE;
        }
        return recovery.found.answer(x, y, z) == asked.answer(x, y, z) ? 1 : 0;
    }

    public int zeros(int box) {
        if (!isBox(box)) {
            return BAD;
        }
        if (numbers.p > MOST_COUNTED_P) {
            return STATE;
        }
        Box counted = boxOf(box);
        counted.readyLines();
        int zeros = 0;
        for (int x = 0; x < numbers.p; x++) {
            for (int y = 0; y < numbers.p; y++) {
                counted.answerLine(x, y);
                zeros += counted.zerosInLine();
            }
        }
        return zeros;
    }

    public int meet() {
        if (numbers.p > MOST_COUNTED_P) {
            return STATE;
        }
        first.readyLines();
        second.readyLines();
        int alike = 0;
        for (int x = 0; x < numbers.p; x++) {
            for (int y = 0; y < numbers.p; y++) {
                first.answerLine(x, y);
                second.answerLine(x, y);
                alike += first.alikeInLine(second);
            }
        }
        return alike;
    }

    public int count(int what) {
        switch (what) {
            case 0:
                return numbers.p;
            case 1:
                return first.terms;
            case 2:
                return second.terms;
            case 3:
                return rowLength;
            case 4:
                return asks;
            default:
                return BAD;
        }
    }

    public long trace() {
        return traced;
    }

    // ---- what a number may be

    private static boolean isBox(int box) {
        return box == 0 || box == 1;
    }

    private Box boxOf(int box) {
        return box == 0 ? first : second;
    }

    private static boolean isKind(int kind) {
        return kind >= POWER && kind <= SCALED;
    }

    private static boolean isExponent(int e) {
        return e >= 0 && e <= MOST_EXPONENT;
    }

    private boolean arePoint(int x, int y, int z) {
        return numbers.has(x) && numbers.has(y) && numbers.has(z);
    }

    /** The numbers 0 .. p - 1; p is a prime at all times, so it may divide without a look. */
    private static final class PrimeField {
        private final int[] inverses = new int[MOST_P];
        private int p = FIRST_P;

        PrimeField() {
            fillInverses();
        }

        /** Takes another prime; false, and nothing changes, for what is none or out of bounds. */
        boolean become(int number) {
            if (number < LEAST_P || number > MOST_P || !isPrime(number)) {
                return false;
            }
            p = number;
            fillInverses();
            return true;
        }

        private static boolean isPrime(int number) {
            for (int d = 2; d * d <= number; d++) {
                if (number % d == 0) {
                    return false;
                }
            }
            return number > 1;
        }

        /** From p = q i + r comes 1 / i = - q / r, and r is below i: one pass fills them all. */
        private void fillInverses() {
            inverses[1] = 1;
            for (int i = 2; i < p && i < inverses.length; i++) {
                inverses[i] = (p - p / i) * inverses[p % i] % p;
            }
        }

        boolean has(int v) {
            return v >= 0 && v < p;
        }

        int times(int v, int w) {
            return v * w % p;
        }

        int plus(int v, int w) {
            return (v + w) % p;
        }

        int less(int v, int w) {
            return (v + p - w) % p;
        }

        /** v divided by w; 0 where w has no inverse, which no caller lets come. */
        int over(int v, int w) {
            return w > 0 && w < p && w < inverses.length ? v * inverses[w] % p : 0;
        }

        int power(int v, int e) {
            int power = 1;
            for (int i = 0; i < e; i++) {
                power = power * v % p;
            }
            return power;
        }
    }

    /** The kinds of a letter's form: what SCALED does stands upon SHIFTED, and that upon POWER. */
    private static final class Bases {
        private final PrimeField numbers;
        // Kept as they were set: another field takes them anew, modulo its own p.
        private int shift = FIRST_SHIFT;
        private int scale = FIRST_SCALE;

        Bases(PrimeField numbers) {
            this.numbers = numbers;
        }

        int letter(int kind, int v, int e) {
            int moved = kind == POWER ? v : numbers.plus(v, shift);
            int raised = numbers.power(moved, e);
            return kind == SCALED ? numbers.times(scale, raised) : raised;
        }

        /** What a form of this kind brings to the trace: its own body and all bodies over it. */
        static int bodiesAsked(int kind) {
            if (kind == SCALED) {
                return 111;
            }
            return kind == SHIFTED ? 11 : 1;
        }
    }

    /** A polynomial of few terms; each term is a coefficient and the exponents a, b, c. */
    private static final class Box {
        private static final int WIDTH = 4, COEFFICIENT = 0, A = 1, B = 2, C = 3;

        private final PrimeField numbers;
        private final Bases bases;
        private final int[] parts = new int[MOST_TERMS * WIDTH];
        private final int[] lineForms = new int[(MOST_EXPONENT + 1) * MOST_COUNTED_P];
        private final int[] line = new int[MOST_COUNTED_P];
        private int kind = POWER;
        private int terms = 0;

        Box(PrimeField numbers, Bases bases) {
            this.numbers = numbers;
            this.bases = bases;
        }

        void drop() {
            terms = 0;
        }

        /** False, and nothing changes, where the box has no room. */
        boolean add(int coefficient, int a, int b, int c) {
            if (terms >= MOST_TERMS) {
                return false;
            }
            int at = terms * WIDTH;
            parts[at + COEFFICIENT] = coefficient;
            parts[at + A] = a;
            parts[at + B] = b;
            parts[at + C] = c;
            terms++;
            return true;
        }

        int part(int term, int which) {
            int at = term * WIDTH + which;
            return at >= 0 && at < parts.length ? parts[at] : 0;
        }

        int answer(int x, int y, int z) {
            int sum = 0;
            for (int t = 0; t < terms; t++) {
                sum += numbers.times(ofTwoLetters(t, x, y), bases.letter(kind, z, part(t, C)));
            }
            return sum % numbers.p;
        }

        private int ofTwoLetters(int t, int x, int y) {
            int ofX = numbers.times(part(t, COEFFICIENT), bases.letter(kind, x, part(t, A)));
            return numbers.times(ofX, bases.letter(kind, y, part(t, B)));
        }

        /** The forms of all z are reckoned once, ahead of all lines that need them. */
        void readyLines() {
            for (int e = 0; e <= MOST_EXPONENT; e++) {
                for (int z = 0; z < numbers.p && z < MOST_COUNTED_P; z++) {
                    lineForms[e * MOST_COUNTED_P + z] = bases.letter(kind, z, e);
                }
            }
        }

        /** The answers at x, y and all z; only for a p that may be counted over. */
        void answerLine(int x, int y) {
            for (int z = 0; z < line.length; z++) {
                line[z] = 0;
            }
            for (int t = 0; t < terms; t++) {
                addToLine(ofTwoLetters(t, x, y), part(t, C));
            }
            for (int z = 0; z < line.length; z++) {
                line[z] = line[z] % numbers.p;
            }
        }

        private void addToLine(int factor, int e) {
            if (!isExponent(e)) {
                return;
            }
            int from = e * MOST_COUNTED_P;
            for (int z = 0; z < numbers.p && z < line.length; z++) {
                line[z] += factor * lineForms[from + z];
            }
        }

        int zerosInLine() {
            int zeros = 0;
            for (int z = 0; z < numbers.p && z < line.length; z++) {
                zeros += line[z] == 0 ? 1 : 0;
            }
            return zeros;
        }

        int alikeInLine(Box other) {
            int alike = 0;
            for (int z = 0; z < numbers.p && z < line.length; z++) {
                alike += line[z] == other.line[z] ? 1 : 0;
            }
            return alike;
        }
    }

    /** The shortest register of a row, taken place by place. */
    private static final class Register {
        private final PrimeField numbers;
        private int[] now = new int[MOST_ROW + 1];
        private int[] former = new int[MOST_ROW + 1];
        private int[] spare = new int[MOST_ROW + 1];
        private int length = 0;
        private int formerLength = 0;
        private int formerError = 1;
        private int moved = 1;

        Register(PrimeField numbers) {
            this.numbers = numbers;
        }

        void read(int[] row, int count) {
            begin();
            for (int n = 0; n < count && n < row.length; n++) {
                take(row, n);
            }
        }

        void begin() {
            for (int k = 0; k < now.length; k++) {
                now[k] = 0;
                former[k] = 0;
            }
            now[0] = 1;
            former[0] = 1;
            length = 0;
            formerLength = 0;
            formerError = 1;
            moved = 1;
        }

        void copyOf(Register other) {
            System.arraycopy(other.now, 0, now, 0, now.length);
            System.arraycopy(other.former, 0, former, 0, former.length);
            length = other.length;
            formerLength = other.formerLength;
            formerError = other.formerError;
            moved = other.moved;
        }

        /** Goes on by the number at place n, all places ahead of it having been taken. */
        void take(int[] row, int n) {
            int error = errorAt(row, n);
            if (error == 0) {
                moved++;
                return;
            }
            int factor = numbers.p - numbers.over(error, formerError);
            if (2 * length > n) {
                addFormer(factor);
                moved++;
                return;
            }
            System.arraycopy(now, 0, spare, 0, now.length);
            addFormer(factor);
            int[] free = former;
            former = spare;
            spare = free;
            formerLength = length;
            formerError = error;
            moved = 1;
            length = n + 1 - length;
        }

        private int errorAt(int[] row, int n) {
            if (n < 0 || n >= row.length) {
                return 0;
            }
            // At most 17 products below a million each: the sum needs no reducing on its way.
            int sum = 0;
            for (int k = 0; k <= length && k <= n && k < now.length; k++) {
                sum += now[k] * row[n - k];
            }
            return sum % numbers.p;
        }

        private void addFormer(int factor) {
            for (int k = 0; k <= formerLength && k + moved < now.length; k++) {
                now[k + moved] = (now[k + moved] + factor * former[k]) % numbers.p;
            }
        }

        /** g(k), for k 1 .. length. */
        int weight(int k) {
            return k >= 1 && k < now.length ? numbers.less(0, now[k]) : 0;
        }
    }

    /** What a register tells far on: x to the n, modulo what the register makes zero. */
    private static final class Onward {
        private final PrimeField numbers;
        private final int[] weights = new int[MOST_ROW + 1];
        private final int[] rest = new int[MOST_ROW];
        private final int[] product = new int[2 * MOST_ROW];
        private int length = 0;

        Onward(PrimeField numbers) {
            this.numbers = numbers;
        }

        int numberAt(int n, Register register, int[] row) {
            if (register.length < 1 || register.length > MOST_ROW) {
                return 0;
            }
            takeWeights(register);
            raise(n);
            int sum = 0;
            for (int i = 0; i < length && i < row.length; i++) {
                sum += rest[i] * row[i];
            }
            return sum % numbers.p;
        }

        private void takeWeights(Register register) {
            length = register.length;
            for (int k = 1; k <= length; k++) {
                weights[k] = register.weight(k);
            }
        }

        private void raise(int n) {
            for (int i = 0; i < rest.length; i++) {
                rest[i] = 0;
            }
            rest[0] = 1;
            for (int bit = FAR_BITS - 1; bit >= 0; bit--) {
                squareInto((n >> bit) & 1);
                reduce();
            }
        }

        /** The square of the rest, moved up by one letter more where the bit is set. */
        private void squareInto(int bit) {
            for (int i = 0; i < product.length; i++) {
                product[i] = 0;
            }
            for (int i = 0; i < length; i++) {
                for (int j = 0; j < length; j++) {
                    product[i + j + bit] += rest[i] * rest[j];
                }
            }
        }

        private void reduce() {
            for (int i = product.length - 1; i >= length; i--) {
                int top = product[i] % numbers.p;
                for (int k = 1; k <= length && top != 0; k++) {
                    product[i - k] = (product[i - k] + top * weights[k]) % numbers.p;
                }
            }
            for (int i = 0; i < length; i++) {
                rest[i] = product[i] % numbers.p;
            }
        }
    }

    /** Looks for the one number of a row whose change makes its register short enough. */
    private static final class LieSearch {
        private final PrimeField numbers;
        private final Register ahead;
        private final Register trial;
        private final int[] mended = new int[MOST_ROW];

        LieSearch(PrimeField numbers) {
            this.numbers = numbers;
            ahead = new Register(numbers);
            trial = new Register(numbers);
        }

        int leastMending(int[] row, int count, int h) {
            int end = Math.min(count, Math.min(row.length, mended.length));
            for (int n = 0; n < end; n++) {
                mended[n] = row[n];
            }
            ahead.begin();
            // A register never gets shorter: once it is too long, no later place can mend it.
            for (int place = 0; place < end && ahead.length <= h; place++) {
                int v = leastNumberAt(place, end, h);
                if (v >= 0) {
                    return place * PLACE_STEP + v;
                }
                mended[place] = row[place];
                ahead.take(mended, place);
            }
            return NONE;
        }

        private int leastNumberAt(int place, int end, int h) {
            for (int v = 0; v < numbers.p; v++) {
                mended[place] = v;
                if (staysWithin(place, end, h)) {
                    return v;
                }
            }
            return -1;
        }

        private boolean staysWithin(int place, int end, int h) {
            trial.copyOf(ahead);
            for (int n = place; n < end && trial.length <= h; n++) {
                trial.take(mended, n);
            }
            return trial.length <= h;
        }
    }

    /** Gets a box's terms back from its answers at powers of 2, 3 and 5. */
    private static final class Recovery {
        private static final int ASKED = 9, READ = 8;

        private final PrimeField numbers;
        private final Register register;
        private final Box found;
        private final int[] answers = new int[ASKED];
        private final int[] keyNumbers = new int[MOST_TERMS];
        private final int[] keyExponents = new int[MOST_TERMS * 3];
        private final int[] others = new int[MOST_TERMS + 1];
        private int keys = 0;

        Recovery(PrimeField numbers, Bases bases) {
            this.numbers = numbers;
            register = new Register(numbers);
            found = new Box(numbers, bases);
        }

        /** True, and the terms stand in found; false, where it fails. */
        boolean recover(Box box) {
            found.drop();
            askPowers(box);
            register.read(answers, READ);
            if (register.length > MOST_TERMS || !findKeys() || !keysDiffer()) {
                return false;
            }
            for (int j = 0; j < keys; j++) {
                int at = j * 3;
                found.add(coefficient(j), keyExponents[at], keyExponents[at + 1], keyExponents[at + 2]);
            }
            return lastAnswerFits();
        }

        private void askPowers(Box box) {
            int x = 1;
            int y = 1;
            int z = 1;
            for (int i = 0; i < answers.length; i++) {
                answers[i] = box.answer(x, y, z);
                x = numbers.times(x, 2);
                y = numbers.times(y, 3);
                z = numbers.times(z, 5);
            }
        }

        /** Whether there are just as many keys as the register is long. */
        private boolean findKeys() {
            keys = 0;
            int ofA = 1;
            for (int a = 0; a <= MOST_EXPONENT; a++) {
                int ofB = ofA;
                for (int b = 0; b <= MOST_EXPONENT; b++) {
                    int number = ofB;
                    for (int c = 0; c <= MOST_EXPONENT; c++) {
                        if (isRoot(number) && !addKey(number, a, b, c)) {
                            return false;
                        }
                        number = numbers.times(number, 5);
                    }
                    ofB = numbers.times(ofB, 3);
                }
                ofA = numbers.times(ofA, 2);
            }
            return keys == register.length;
        }

        private boolean isRoot(int number) {
            int value = 1;
            for (int k = 1; k <= register.length; k++) {
                value = numbers.less(numbers.times(value, number), register.weight(k));
            }
            return value == 0;
        }

        private boolean addKey(int number, int a, int b, int c) {
            if (keys >= register.length || keys >= MOST_TERMS) {
                return false;
            }
            keyNumbers[keys] = number;
            keyExponents[keys * 3] = a;
            keyExponents[keys * 3 + 1] = b;
            keyExponents[keys * 3 + 2] = c;
            keys++;
            return true;
        }

        private boolean keysDiffer() {
            for (int i = 0; i < keys; i++) {
                for (int j = 0; j < i; j++) {
                    if (keyNumbers[i] == keyNumbers[j]) {
                        return false;
                    }
                }
            }
            return true;
        }

        /**
         * The product of (x - w) over the numbers w of all other keys is zero at those: weighing the
         * answers by its coefficients leaves this key's coefficient times its value at this key.
         */
        private int coefficient(int key) {
            multiplyOthers(key);
            int weighed = 0;
            int value = 0;
            for (int i = keys - 1; i >= 0; i--) {
                weighed += others[i] * answers[i];
                value = numbers.plus(numbers.times(value, keyNumbers[key]), others[i]);
            }
            return numbers.over(weighed % numbers.p, value);
        }

        private void multiplyOthers(int key) {
            for (int i = 0; i < others.length; i++) {
                others[i] = 0;
            }
            others[0] = 1;
            for (int j = 0; j < keys; j++) {
                if (j != key) {
                    multiplyBy(keyNumbers[j]);
                }
            }
        }

        private void multiplyBy(int w) {
            for (int i = others.length - 1; i >= 0; i--) {
                int below = i > 0 ? others[i - 1] : 0;
                others[i] = numbers.less(below, numbers.times(others[i], w));
            }
        }

        private boolean lastAnswerFits() {
            int sum = 0;
            for (int j = 0; j < keys; j++) {
                sum += numbers.times(found.part(j, Box.COEFFICIENT), numbers.power(keyNumbers[j], READ));
            }
            return sum % numbers.p == answers[READ];
        }
    }
}
