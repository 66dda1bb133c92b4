import java.util.Arrays;

/**
 * Long runs of drawn calls on a SealedBox and on a plain model of the document side by side: every
 * answer must be alike. The model goes by other ways than the class (steps in place of powers,
 * elimination in place of products, whole rows in place of lines), so that one error is not made twice.
 */
public final class AgainstPlain {
    private static int wrong = 0;

    /** The document's words, one by one, with no care for speed. */
    private static final class Plain {
        int p = 101, shift = 1, scale = 2, asks = 0;
        long trace = 0;
        final int[] kinds = {0, 0};
        final int[][] terms = {{}, {}};
        int[] row = {};

        int field(int n) {
            if (n < 5 || n > 997) return -1;
            for (int d = 2; d < n; d++) if (n % d == 0) return -1;
            int was = p;
            p = n;
            terms[0] = new int[0];
            terms[1] = new int[0];
            row = new int[0];
            return was;
        }

        int set(int what, int v) {
            int was;
            switch (what) {
                case 0: if (v < 0 || v > 996) return -1; was = shift; shift = v; return was;
                case 1: if (v < 1 || v > 996) return -1; was = scale; scale = v; return was;
                case 2: case 3: if (v < 0 || v > 2) return -1; was = kinds[what - 2]; kinds[what - 2] = v; return was;
                default: return -1;
            }
        }

        boolean has(int... all) {
            for (int v : all) if (v < 0 || v >= p) return false;
            return true;
        }

        int raised(int v, int e) {
            long r = 1;
            for (int i = 0; i < e; i++) r = r * v % p;
            return (int) r;
        }

        int letter(int kind, int v, int e, boolean tell) {
            if (tell) trace += kind == 0 ? 1 : kind == 1 ? 10 : 100;
            if (kind == 0) return raised(v, e);
            if (kind == 1) return letter(0, (v + shift) % p, e, tell);
            return (int) ((long) scale * letter(1, v, e, tell) % p);
        }

        int form(int kind, int v, int e) {
            if (kind < 0 || kind > 2 || !has(v) || e < 0 || e > 4) return -1;
            return letter(kind, v, e, true);
        }

        int term(int box, int k, int a, int b, int c) {
            if (box < 0 || box > 1 || !has(k) || k == 0) return -1;
            for (int e : new int[] {a, b, c}) if (e < 0 || e > 4) return -1;
            if (terms[box].length == 16) return -3;
            int n = terms[box].length;
            terms[box] = Arrays.copyOf(terms[box], n + 4);
            terms[box][n] = k;
            terms[box][n + 1] = a;
            terms[box][n + 2] = b;
            terms[box][n + 3] = c;
            return n / 4;
        }

        int empty(int box) {
            if (box < 0 || box > 1) return -1;
            int had = terms[box].length / 4;
            terms[box] = new int[0];
            return had;
        }

        int answer(int[] t, int kind, int x, int y, int z) {
            long sum = 0;
            for (int i = 0; i < t.length; i += 4) {
                long one = t[i];
                one = one * letter(kind, x, t[i + 1], false) % p;
                one = one * letter(kind, y, t[i + 2], false) % p;
                one = one * letter(kind, z, t[i + 3], false) % p;
                sum += one;
            }
            return (int) (sum % p);
        }

        int ask(int box, int x, int y, int z) {
            if (box < 0 || box > 1 || !has(x, y, z)) return -1;
            asks++;
            return answer(terms[box], kinds[box], x, y, z);
        }

        int say(int v) {
            if (!has(v)) return -1;
            if (row.length == 16) return -3;
            row = Arrays.copyOf(row, row.length + 1);
            row[row.length - 1] = v;
            return row.length;
        }

        int change(int place, int v) {
            if (place < 0 || place >= row.length || !has(v)) return -1;
            int was = row[place];
            row[place] = v;
            return was;
        }

        int clear() {
            int had = row.length;
            row = new int[0];
            return had;
        }

        /** L at 0, then g(1) .. g(L). */
        int[] reg(int[] s) {
            long[] c = new long[64], former = new long[64];
            c[0] = 1;
            former[0] = 1;
            long f = 1;
            int m = 1, len = 0;
            for (int n = 0; n < s.length; n++) {
                long e = 0;
                for (int k = 0; k <= len; k++) e = (e + c[k] * s[n - k]) % p;
                if (e == 0) {
                    m++;
                    continue;
                }
                long[] was = c.clone();
                long by = 0;
                while (by * f % p != e) by++;
                for (int k = 0; k + m < 64; k++) c[k + m] = Math.floorMod(c[k + m] - by * former[k], (long) p);
                if (2 * len <= n) {
                    former = was;
                    f = e;
                    m = 1;
                    len = n + 1 - len;
                } else {
                    m++;
                }
            }
            int[] g = new int[len + 1];
            g[0] = len;
            for (int k = 1; k <= len; k++) g[k] = (int) Math.floorMod(-c[k], (long) p);
            return g;
        }

        int register(int i) {
            int[] g = reg(row);
            return i < 0 || i >= g.length ? -1 : g[i];
        }

        /** Step by step: drawn calls go to some thousands alone. */
        int far(int n) {
            if (n < 0 || n > 1000000000) return -1;
            if (n < row.length) return row[n];
            int[] g = reg(row);
            int[] s = Arrays.copyOf(row, n + 1);
            for (int i = row.length; i <= n; i++) {
                long sum = 0;
                for (int k = 1; k <= g[0]; k++) sum += (long) g[k] * s[i - k];
                s[i] = (int) (sum % p);
            }
            return s[n];
        }

        int lie(int h) {
            if (h < 0 || h > 7) return -1;
            if (reg(row)[0] <= h) return 999000;
            for (int place = 0; place < row.length; place++) {
                for (int v = 0; v < p; v++) {
                    int[] s = row.clone();
                    s[place] = v;
                    if (reg(s)[0] <= h) return place * 1000 + v;
                }
            }
            return -9;
        }

        /** The terms got back, four numbers each; null where it fails. */
        int[] back(int box) {
            int[] s = new int[9];
            for (int i = 0; i < 9; i++) {
                s[i] = answer(terms[box], kinds[box], raised(2 % p, i), raised(3 % p, i), raised(5 % p, i));
            }
            int[] g = reg(Arrays.copyOf(s, 8));
            int len = g[0];
            int[] out = new int[0], w = new int[0];
            for (int abc = 0; abc < 125; abc++) {
                int a = abc / 25, b = abc / 5 % 5, c = abc % 5;
                int num = raised(2, a) * raised(3, b) % p * raised(5 % p, c) % p;
                long sum = 0;
                for (int k = 1; k <= len; k++) sum += (long) g[k] * raised(num, len - k);
                if (raised(num, len) != sum % p) continue;
                for (int other : w) if (other == num) return null;
                w = Arrays.copyOf(w, w.length + 1);
                w[w.length - 1] = num;
                out = Arrays.copyOf(out, out.length + 4);
                out[out.length - 3] = a;
                out[out.length - 2] = b;
                out[out.length - 1] = c;
            }
            if (w.length != len || len > 4) return null;
            long[] k = solve(w, s);
            long ninth = 0;
            for (int j = 0; j < len; j++) {
                out[4 * j] = (int) k[j];
                ninth += k[j] * raised(w[j], 8);
            }
            return ninth % p == s[8] ? out : null;
        }

        long[] solve(int[] w, int[] s) {
            int n = w.length;
            long[][] m = new long[n][n + 1];
            for (int i = 0; i < n; i++) {
                for (int j = 0; j < n; j++) m[i][j] = raised(w[j], i);
                m[i][n] = s[i];
            }
            for (int col = 0; col < n; col++) {
                int at = col;
                while (m[at][col] == 0) at++;
                long[] swap = m[at];
                m[at] = m[col];
                m[col] = swap;
                long inverse = 1;
                while (inverse * m[col][col] % p != 1) inverse++;
                for (int j = 0; j <= n; j++) m[col][j] = m[col][j] * inverse % p;
                for (int i = 0; i < n; i++) {
                    long by = m[i][col];
                    for (int j = 0; i != col && j <= n; j++) m[i][j] = Math.floorMod(m[i][j] - by * m[col][j], (long) p);
                }
            }
            long[] k = new long[n];
            for (int i = 0; i < n; i++) k[i] = m[i][n];
            return k;
        }

        int got(int box, int what, int i) {
            if (box < 0 || box > 1 || what < 0 || what > 4) return -1;
            asks += 9;
            int[] t = back(box);
            if (t == null) return -2;
            if (what == 0) return t.length / 4;
            return i < 0 || i >= t.length / 4 ? -1 : t[4 * i + what - 1];
        }

        int right(int box, int x, int y, int z) {
            if (box < 0 || box > 1 || !has(x, y, z)) return -1;
            asks += 10;
            int[] t = back(box);
            if (t == null) return -2;
            return answer(t, 0, x, y, z) == answer(terms[box], kinds[box], x, y, z) ? 1 : 0;
        }

        int zeros(int box) {
            if (box < 0 || box > 1) return -1;
            if (p > 23) return -2;
            int n = 0;
            for (int i = 0; i < p * p * p; i++) {
                if (answer(terms[box], kinds[box], i % p, i / p % p, i / p / p) == 0) n++;
            }
            return n;
        }

        int meet() {
            if (p > 23) return -2;
            int n = 0;
            for (int i = 0; i < p * p * p; i++) {
                int x = i % p, y = i / p % p, z = i / p / p;
                if (answer(terms[0], kinds[0], x, y, z) == answer(terms[1], kinds[1], x, y, z)) n++;
            }
            return n;
        }

        int count(int what) {
            switch (what) {
                case 0: return p;
                case 1: return terms[0].length / 4;
                case 2: return terms[1].length / 4;
                case 3: return row.length;
                case 4: return asks;
                default: return -1;
            }
        }
    }

    /** A drawing of numbers that is the same every time. */
    private static long drawn = 20261118;

    private static int draw(int n) {
        drawn = drawn * 6364136223846793005L + 1442695040888963407L;
        return (int) ((drawn >>> 33) % n);
    }

    private static int drawOdd(int from, int to) {
        int[] strange = {from - 1, to + 1, Integer.MIN_VALUE, Integer.MAX_VALUE, -1, 1000};
        return draw(24) == 0 ? strange[draw(strange.length)] : from + draw(to - from + 1);
    }

    private static final int[] SMALL = {5, 7, 11, 13, 17, 19, 23};
    private static final int[] LARGE = {29, 31, 101, 499, 983, 991, 997};

    /** Of the object at hand; beyond 512 of them the document promises nothing. */
    private static int calls = 0;

    private static void due(int run, String call, long got, long want) {
        calls++;
        if (got != want) {
            wrong++;
            if (wrong < 30) System.out.println("run " + run + ": " + call + " answered " + got + ", due is " + want);
        }
    }

    /** A row that a short register makes, then perhaps one lie in it. */
    private static void sayRegisterRow(int run, SealedBox x, Plain m) {
        due(run, "clear()", x.clear(), m.clear());
        int len = draw(6), count = draw(17);
        int[] g = new int[len + 1], s = new int[count];
        for (int k = 1; k <= len; k++) g[k] = draw(m.p);
        for (int i = 0; i < count; i++) {
            long sum = i < len ? draw(m.p) : 0;
            for (int k = 1; k <= len && i >= len; k++) sum += (long) g[k] * s[i - k];
            s[i] = (int) (sum % m.p);
        }
        if (count > 0 && draw(2) == 0) s[draw(count)] = draw(m.p);
        for (int v : s) due(run, "say(" + v + ")", x.say(v), m.say(v));
    }

    private static void boxCall(int run, SealedBox x, Plain m) {
        int box = drawOdd(0, 1), a = drawOdd(0, m.p - 1), b = drawOdd(0, m.p - 1), c = drawOdd(0, m.p - 1);
        int e = drawOdd(0, 4), f = drawOdd(0, 4), g = drawOdd(0, 4);
        String args = "(" + box + ", " + a + ", " + b + ", " + c + "; " + e + ", " + f + ", " + g + ")";
        switch (draw(10)) {
            case 0: case 1: case 2: due(run, "term" + args, x.term(box, a, e, f, g), m.term(box, a, e, f, g)); break;
            case 3: due(run, "empty" + args, x.empty(box), m.empty(box)); break;
            case 4: due(run, "ask" + args, x.ask(box, a, b, c), m.ask(box, a, b, c)); break;
            case 5: due(run, "form" + args, x.form(f % 3, a, e), m.form(f % 3, a, e)); break;
            case 6: case 7: due(run, "got" + args, x.got(box, f, e), m.got(box, f, e)); break;
            case 8: due(run, "right" + args, x.right(box, a, b, c), m.right(box, a, b, c)); break;
            default: due(run, "got" + args, x.got(box, 0, e), m.got(box, 0, e)); break;
        }
    }

    private static void rowCall(int run, SealedBox x, Plain m) {
        int v = drawOdd(0, m.p - 1), place = drawOdd(0, 15), n = draw(3000);
        String args = "(" + place + ", " + v + ", " + n + ")";
        switch (draw(8)) {
            case 0: case 1: due(run, "say" + args, x.say(v), m.say(v)); break;
            case 2: due(run, "change" + args, x.change(place, v), m.change(place, v)); break;
            case 3: due(run, "register(0)", x.register(0), m.register(0)); break;
            case 4: due(run, "register" + args, x.register(place), m.register(place)); break;
            case 5: due(run, "far" + args, x.far(n), m.far(n)); break;
            case 6: due(run, "far" + args, x.far(place), m.far(place)); break;
            default: sayRegisterRow(run, x, m); break;
        }
    }

    private static void rareCall(int run, SealedBox x, Plain m) {
        int p = draw(2) == 0 ? SMALL[draw(SMALL.length)] : LARGE[draw(LARGE.length)];
        int what = drawOdd(0, 3), v = what < 2 ? drawOdd(0, 996) : drawOdd(0, 2), box = drawOdd(0, 1), h = drawOdd(0, 7);
        if (draw(8) == 0) p = drawOdd(5, 997);
        switch (draw(10)) {
            case 0: due(run, "field(" + p + ")", x.field(p), m.field(p)); break;
            case 1: case 2: due(run, "set(" + what + ", " + v + ")", x.set(what, v), m.set(what, v)); break;
            case 3: due(run, "zeros(" + box + ")", x.zeros(box), m.zeros(box)); break;
            case 4: due(run, "meet()", x.meet(), m.meet()); break;
            case 5: case 6: if (m.p < 500 || draw(8) == 0) due(run, "lie(" + h + ")", x.lie(h), m.lie(h)); break;
            case 7: due(run, "trace()", x.trace(), m.trace); break;
            default: due(run, "count(" + what + ")", x.count(what), m.count(what)); break;
        }
    }

    private static void stateAlike(int run, SealedBox x, Plain m) {
        for (int what = -1; what <= 5; what++) due(run, "count(" + what + ")", x.count(what), m.count(what));
        for (int n = 0; n < 20; n++) due(run, "far(" + n + ")", x.far(n), m.far(n));
        due(run, "trace()", x.trace(), m.trace);
    }

    public static void main(String[] args) {
        for (int run = 0; run < 500; run++) {
            SealedBox x = new SealedBox();
            calls = 0;
            Plain m = new Plain();
            int p = run % 2 == 0 ? SMALL[draw(SMALL.length)] : LARGE[draw(LARGE.length)];
            due(run, "field(" + p + ")", x.field(p), m.field(p));
            int rare = 4 + draw(20);
            while (calls < 460) {
                int which = draw(2 * rare);
                if (which == 0) rareCall(run, x, m);
                else if (which <= rare) boxCall(run, x, m);
                else rowCall(run, x, m);
            }
            stateAlike(run, x, m);
        }
        System.out.println(wrong == 0 ? "AgainstPlain: all answers are as due" : "AgainstPlain: " + wrong + " wrong");
        if (wrong != 0) System.exit(1);
    }
}
