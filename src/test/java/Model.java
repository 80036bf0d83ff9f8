import java.util.ArrayList;
import java.util.Arrays;
import java.util.List;
import java.util.regex.Matcher;
import java.util.regex.Pattern;

/**
 * The document once more, written for plainness alone and by other ways than the class takes
 * (determinants by cofactors, polygons by asking of each pair of points whether all lie to its left,
 * faults by a regular expression), so that the two can be held against each other.
 */
final class Model {
    static final class P {
        int kind;
        int figure;
        int[][] told = new int[5][5];

        P copy() {
            P c = new P();
            c.kind = kind;
            c.figure = figure;
            for (int i = 0; i < 5; i++) {
                c.told[i] = told[i].clone();
            }
            return c;
        }
    }

    private static final List<Integer> PRIMES = List.of(2, 3, 5, 7, 11, 13, 17, 19, 23, 29, 31);
    private static final String POWERS = "(?:x(?:\\^[1-4])?(?:y(?:\\^[1-4])?)?|y(?:\\^[1-4])?)";
    private static final String TERM = "(?:[0-9]{1,2}" + POWERS + "?|" + POWERS + ")";
    private static final Pattern TEXT = Pattern.compile("-?" + TERM + "(?:[+-]" + TERM + ")*");
    private static final Pattern ONE = Pattern.compile("([+-]?)([0-9]*)(?:x(?:\\^([1-4]))?)?(?:y(?:\\^([1-4]))?)?");

    int p = 7;
    List<P> polys = new ArrayList<>();
    StringBuilder letters = new StringBuilder();
    List<List<P>> past = new ArrayList<>();
    List<P> imagePolys;
    int imagePrime;
    int[][] lists = new int[3][];
    int[] refused = new int[7];

    private int no(int n) {
        refused[-n]++;
        return n;
    }

    private long noLong(int n) {
        return 4000000000000000000L - no(n);
    }

    private boolean nobody(int... asked) {
        for (int a : asked) {
            if (a < 0 || a >= polys.size()) {
                return true;
            }
        }
        return false;
    }

    private static List<P> copyAll(List<P> from) {
        List<P> to = new ArrayList<>();
        for (P q : from) {
            to.add(q.copy());
        }
        return to;
    }

    private void remember() {
        past.add(copyAll(polys));
        if (past.size() > 16) {
            past.remove(0);
        }
    }

    int mod(long n) {
        return (int) (((n % p) + p) % p);
    }

    // ---- coefficients

    int plain(P q, int i, int j) {
        return i < 0 || j < 0 || i > 4 || j > 4 ? 0 : q.told[i][j];
    }

    int even(P q, int i, int j) {
        return i % 2 == 1 ? 0 : plain(q, i, j);
    }

    static long choose(int n, int k) {
        return k == 0 || k == n ? 1 : choose(n - 1, k - 1) + choose(n - 1, k);
    }

    static long pow(long b, int e) {
        return e == 0 ? 1 : b * pow(b, e - 1);
    }

    int coef(P q, int i, int j) {
        switch (q.kind) {
            case 0: return mod(plain(q, i, j));
            case 1: return mod(even(q, i, j));
            case 2: return mod(plain(q, j, i));
            case 3: {
                long s = 0;
                for (int k = i; k <= 4; k++) {
                    s += choose(k, i) * pow(q.figure, k - i) * plain(q, k, j);
                }
                return mod(s);
            }
            case 4: return i == 4 ? 0 : mod((long) (i + 1) * even(q, i + 1, j));
            default: return mod(plain(q, j, i) * pow(q.figure, j));
        }
    }

    List<int[]> terms(P q) {
        List<int[]> t = new ArrayList<>();
        for (int i = 0; i < 5; i++) {
            for (int j = 0; j < 5; j++) {
                if (coef(q, i, j) != 0) {
                    t.add(new int[] {i, j});
                }
            }
        }
        return t;
    }

    boolean nought(int a) {
        return terms(polys.get(a)).isEmpty();
    }

    int deg(P q, int letter) {
        return terms(q).stream().mapToInt(t -> t[letter]).max().orElse(-9);
    }

    int val(P q, int x, int y) {
        long s = 0;
        for (int i = 0; i < 5; i++) {
            for (int j = 0; j < 5; j++) {
                s += coef(q, i, j) * pow(x, i) % p * (pow(y, j) % p);
            }
        }
        return mod(s);
    }

    // ---- polynomials of one letter

    int[] trim(int[] a) {
        int n = a.length;
        while (n > 0 && a[n - 1] == 0) {
            n--;
        }
        return Arrays.copyOf(a, n);
    }

    int[] add(int[] a, int[] b, int sign) {
        int[] c = new int[Math.max(a.length, b.length)];
        for (int k = 0; k < c.length; k++) {
            c[k] = mod((k < a.length ? a[k] : 0) + (long) sign * (k < b.length ? b[k] : 0));
        }
        return trim(c);
    }

    int[] mul(int[] a, int[] b) {
        if (a.length == 0 || b.length == 0) {
            return new int[0];
        }
        int[] c = new int[a.length + b.length - 1];
        for (int i = 0; i < a.length; i++) {
            for (int j = 0; j < b.length; j++) {
                c[i + j] = mod(c[i + j] + (long) a[i] * b[j]);
            }
        }
        return trim(c);
    }

    int[] left(int[] a, int[] b) {
        int[] rest = a;
        while (rest.length >= b.length) {
            int lead = 0;
            while (mod((long) lead * b[b.length - 1]) != rest[rest.length - 1]) {
                lead++;
            }
            int[] times = new int[rest.length - b.length + 1];
            times[times.length - 1] = lead;
            rest = add(rest, mul(times, b), -1);
        }
        return rest;
    }

    int dg(int[] a) {
        return a.length == 0 ? -9 : a.length - 1;
    }

    int[] with(P q, int letter, int a) {
        int[] r = new int[5];
        for (int b = 0; b < 5 && a >= 0 && a <= 4; b++) {
            r[b] = letter == 0 ? coef(q, a, b) : coef(q, b, a);
        }
        return trim(r);
    }

    int horner(int[] a, int v) {
        long s = 0;
        long power = 1;
        for (int c : a) {
            s += c * power;
            power = power * v % p;
        }
        return mod(s);
    }

    int[] atV(P q, int letter, int v) {
        int[] r = new int[5];
        for (int a = 0; a < 5; a++) {
            r[a] = horner(with(q, letter, a), v);
        }
        return trim(r);
    }

    int[][][] table(P a, P b, int letter, int table) {
        int m = deg(a, letter);
        int n = deg(b, letter);
        int size = table == 0 ? m + n : Math.max(m, n);
        int[][][] t = new int[size][size][];
        for (int r = 0; r < size; r++) {
            for (int c = 0; c < size; c++) {
                if (table == 0) {
                    t[r][c] = r < n ? with(a, letter, m + r - c) : with(b, letter, n + (r - n) - c);
                    continue;
                }
                int[] s = new int[0];
                for (int k = 0; k <= Math.min(r, size - 1 - c); k++) {
                    s = add(s, mul(with(a, letter, c + k + 1), with(b, letter, r - k)), 1);
                    s = add(s, mul(with(a, letter, r - k), with(b, letter, c + k + 1)), -1);
                }
                t[r][c] = s;
            }
        }
        return t;
    }

    int[] determinant(int[][][] t) {
        int n = t.length;
        int[][] known = new int[1 << n][];
        known[0] = new int[] {1};
        for (int set = 1; set < 1 << n; set++) {
            int row = n - Integer.bitCount(set);
            int[] s = new int[0];
            int sign = 1;
            for (int c = 0; c < n; c++) {
                if ((set >> c & 1) != 0) {
                    s = add(s, mul(t[row][c], known[set & ~(1 << c)]), sign);
                    sign = -sign;
                }
            }
            known[set] = s;
        }
        return known[(1 << n) - 1];
    }

    List<int[]> remainders(int[] a, int[] b) {
        List<int[]> all = new ArrayList<>(List.of(a, b));
        while (all.get(all.size() - 1).length > 0) {
            all.add(left(all.get(all.size() - 2), all.get(all.size() - 1)));
        }
        all.removeIf(x -> x.length == 0);
        return all;
    }

    List<int[]> commonRoots(int one, int other) {
        List<int[]> found = new ArrayList<>();
        for (int x = 0; x < p; x++) {
            for (int y = 0; y < p; y++) {
                if (val(polys.get(one), x, y) == 0 && val(polys.get(other), x, y) == 0) {
                    found.add(new int[] {x, y});
                }
            }
        }
        return found;
    }

    // ---- polygons

    static int cross(int[] a, int[] b, int[] c) {
        return (b[0] - a[0]) * (c[1] - a[1]) - (b[1] - a[1]) * (c[0] - a[0]);
    }

    static int apart(int[] a, int[] b) {
        return (a[0] - b[0]) * (a[0] - b[0]) + (a[1] - b[1]) * (a[1] - b[1]);
    }

    List<int[]> hull(List<int[]> points) {
        int[] start = points.get(0);
        for (int[] q : points) {
            if (q[0] < start[0] || q[0] == start[0] && q[1] < start[1]) {
                start = q;
            }
        }
        List<int[]> corners = new ArrayList<>();
        int[] here = start;
        do {
            corners.add(here);
            int[] next = here;
            for (int[] q : points) {
                if (apart(q, here) == 0) {
                    continue;
                }
                boolean side = true;
                for (int[] r : points) {
                    int turn = cross(here, q, r);
                    if (turn < 0 || turn == 0 && apart(here, r) > apart(here, q)
                            && (r[0] - here[0]) * (q[0] - here[0]) + (r[1] - here[1]) * (q[1] - here[1]) > 0) {
                        side = false;
                    }
                }
                if (side) {
                    next = q;
                }
            }
            here = next;
        } while (apart(here, start) != 0);
        return corners;
    }

    int doubled(List<int[]> corners) {
        int s = 0;
        for (int k = 0; k < corners.size(); k++) {
            int[] a = corners.get(k);
            int[] b = corners.get((k + 1) % corners.size());
            s += a[0] * b[1] - a[1] * b[0];
        }
        return s;
    }

    List<int[]> sums(int one, int other) {
        List<int[]> s = new ArrayList<>();
        for (int[] a : terms(polys.get(one))) {
            for (int[] b : terms(polys.get(other))) {
                s.add(new int[] {a[0] + b[0], a[1] + b[1]});
            }
        }
        return s;
    }

    static int code(List<int[]> points, int k) {
        return k < points.size() ? 10 * points.get(k)[0] + points.get(k)[1] : -9;
    }

    // ---- the calls

    int letter(int c) {
        if (c < 0) return no(-4);
        if (c > 255 || letters.length() == 72) return no(-6);
        letters.append((char) c);
        return letters.length();
    }

    int poly() {
        if (polys.size() == 6) return no(-6);
        String text = letters.toString();
        letters.setLength(0);
        for (int n = 1; n <= text.length(); n++) {
            Matcher m = TEXT.matcher(text.substring(0, n));
            if (!m.matches() && !m.hitEnd()) return -1000 - (n - 1);
        }
        if (!TEXT.matcher(text).matches()) return -1000 - text.length();
        P q = new P();
        Matcher m = ONE.matcher(text);
        int from = 0;
        while (from < text.length() && m.find(from)) {
            int i = power(m.group(0), 'x', m.group(3));
            int j = power(m.group(0), 'y', m.group(4));
            int n = m.group(2).isEmpty() ? 1 : Integer.parseInt(m.group(2));
            q.told[i][j] = mod(q.told[i][j] + (m.group(1).equals("-") ? -n : n));
            from = m.end();
        }
        past.clear();
        polys.add(q);
        return polys.size() - 1;
    }

    static int power(String term, char letter, String digit) {
        return term.indexOf(letter) < 0 ? 0 : digit == null ? 1 : Integer.parseInt(digit);
    }

    int drop() {
        if (polys.isEmpty()) return no(-3);
        past.clear();
        polys.remove(polys.size() - 1);
        return polys.size();
    }

    int prime(int n) {
        if (!PRIMES.contains(n)) return no(-3);
        int was = p;
        p = n;
        past.clear();
        for (P q : polys) {
            for (int[] row : q.told) {
                for (int j = 0; j < 5; j++) {
                    row[j] = mod(row[j]);
                }
            }
        }
        return was;
    }

    int turn(int poly, int kind, int figure) {
        if (nobody(poly)) return no(-1);
        if (kind < 0 || kind > 5) return no(-2);
        if (figure < 0) return no(-4);
        if (figure > 9) return no(-6);
        remember();
        P q = polys.get(poly);
        int was = q.kind * 10 + q.figure;
        q.kind = kind;
        q.figure = figure;
        return was;
    }

    private int powers(int poly, int i, int j) {
        return nobody(poly) ? -1 : Math.min(i, j) < 0 ? -4 : Math.max(i, j) > 4 ? -6 : 0;
    }

    int change(int poly, int i, int j, int v) {
        int n = powers(poly, i, j);
        if (n != 0) return no(n);
        remember();
        int was = polys.get(poly).told[i][j];
        polys.get(poly).told[i][j] = mod(v);
        return was;
    }

    int coefficient(int poly, int i, int j) {
        int n = powers(poly, i, j);
        return n != 0 ? no(n) : coef(polys.get(poly), i, j);
    }

    int of(int poly, int what) {
        if (nobody(poly)) return no(-1);
        if (what < 0 || what > 5) return no(-2);
        P q = polys.get(poly);
        int whole = terms(q).stream().mapToInt(t -> t[0] + t[1]).max().orElse(-9);
        return new int[] {q.kind, q.figure, deg(q, 0), deg(q, 1), terms(q).size(), whole}[what];
    }

    int term(int poly, int order, int k) {
        if (nobody(poly)) return no(-1);
        if (order != 0 && order != 1) return no(-2);
        if (k < 0) return no(-4);
        List<int[]> t = terms(polys.get(poly));
        t.sort((a, b) -> {
            int first = order == 0 ? b[0] - a[0] : b[0] + b[1] - a[0] - a[1];
            int second = order == 0 ? b[1] - a[1] : b[0] - a[0];
            return first != 0 ? first : second;
        });
        return code(t, k);
    }

    int value(int poly, int x, int y) {
        if (nobody(poly)) return no(-1);
        if (Math.min(x, y) < 0) return no(-4);
        if (Math.max(x, y) > p - 1) return no(-6);
        return val(polys.get(poly), x, y);
    }

    private int pair(int one, int other, int letter, int table) {
        if (nobody(one, other) || letter < 0 || letter > 1) return -1;
        if (table < 0 || table > 1) return -2;
        return nought(one) || nought(other) ? -3 : 0;
    }

    int rows(int one, int other, int letter, int table) {
        int n = pair(one, other, letter, table);
        return n != 0 ? no(n) : table(polys.get(one), polys.get(other), letter, table).length;
    }

    int entry(int one, int other, int letter, int table, int r, int c, int k) {
        int n = pair(one, other, letter, table);
        if (n != 0) return no(n);
        if (r < 0 || c < 0 || k < 0) return no(-4);
        int[][][] t = table(polys.get(one), polys.get(other), letter, table);
        if (r >= t.length || c >= t.length || k > 8) return no(-6);
        return k < t[r][c].length ? t[r][c][k] : 0;
    }

    private int[] resultOf(int one, int other, int letter, int table) {
        return determinant(table(polys.get(one), polys.get(other), letter, table));
    }

    int result(int one, int other, int letter, int table, int k) {
        int n = pair(one, other, letter, table);
        if (n != 0) return no(n);
        if (k < 0) return no(-4);
        if (k > 40) return no(-6);
        int[] r = resultOf(one, other, letter, table);
        return k < r.length ? r[k] : 0;
    }

    int degree(int one, int other, int letter, int table) {
        int n = pair(one, other, letter, table);
        return n != 0 ? no(n) : dg(resultOf(one, other, letter, table));
    }

    int at(int one, int other, int letter, int table, int v) {
        int n = pair(one, other, letter, table);
        if (n != 0) return no(n);
        if (v < 0) return no(-4);
        if (v > p - 1) return no(-6);
        return horner(resultOf(one, other, letter, table), v);
    }

    int remainder(int one, int other, int letter, int v, int k) {
        int n = pair(one, other, letter, 0);
        if (n != 0) return no(n);
        if (v < 0 || k < -1) return no(-4);
        if (v > p - 1) return no(-6);
        List<int[]> all = remainders(atV(polys.get(one), letter, v), atV(polys.get(other), letter, v));
        return k == -1 ? all.size() : k < all.size() ? dg(all.get(k)) : -9;
    }

    int common(int one, int other, int letter, int v) {
        int n = pair(one, other, letter, 0);
        if (n != 0) return no(n);
        if (v < 0) return no(-4);
        if (v > p - 1) return no(-6);
        List<int[]> all = remainders(atV(polys.get(one), letter, v), atV(polys.get(other), letter, v));
        return all.isEmpty() ? -9 : dg(all.get(all.size() - 1));
    }

    int norm(int one, int other, int letter, int v) {
        int n = pair(one, other, letter, 0);
        if (n != 0) return no(n);
        if (v < 0) return no(-4);
        if (v > p - 1) return no(-6);
        int[] a = atV(polys.get(one), letter, v);
        int[] b = atV(polys.get(other), letter, v);
        int d = dg(a);
        if (d < 0) return -9;
        int[][][] t = new int[d][d][];
        for (int r = 0; r < d; r++) {
            int[] times = new int[r + 1];
            times[r] = 1;
            int[] row = left(mul(b, times), a);
            for (int c = 0; c < d; c++) {
                t[r][c] = c < row.length && row[c] != 0 ? new int[] {row[c]} : new int[0];
            }
        }
        int[] determinant = determinant(t);
        return determinant.length == 0 ? 0 : determinant[0];
    }

    int extra(int one, int other, int letter) {
        int n = pair(one, other, letter, 0);
        if (n != 0) return no(n);
        P a = polys.get(one);
        P b = polys.get(other);
        List<int[]> all = remainders(with(a, letter, deg(a, letter)), with(b, letter, deg(b, letter)));
        return dg(all.get(all.size() - 1));
    }

    int zeros(int one, int other, int letter) {
        int n = pair(one, other, letter, 0);
        if (n != 0) return no(n);
        int[] r = resultOf(one, other, letter, 0);
        int bits = 0;
        for (int v = 0; v < p; v++) {
            bits |= horner(r, v) == 0 ? 1 << v : 0;
        }
        return bits;
    }

    int lifted(int one, int other, int letter) {
        if (nobody(one, other) || letter < 0 || letter > 1) return no(-1);
        int bits = 0;
        for (int[] r : commonRoots(one, other)) {
            bits |= 1 << r[1 - letter];
        }
        return bits;
    }

    int root(int one, int other, int k) {
        if (nobody(one, other)) return no(-1);
        if (k < -1) return no(-4);
        List<int[]> all = commonRoots(one, other);
        return k == -1 ? all.size() : k < all.size() ? 100 * all.get(k)[0] + all.get(k)[1] : -9;
    }

    int without(int one, int other) {
        if (nobody(one, other)) return no(-1);
        return (int) commonRoots(one, other).stream().filter(r -> r[0] * r[1] != 0).count();
    }

    int corner(int poly, int k) {
        if (nobody(poly)) return no(-1);
        if (nought(poly)) return no(-3);
        if (k < 0) return no(-4);
        return code(hull(terms(polys.get(poly))), k);
    }

    int area(int poly) {
        if (nobody(poly)) return no(-1);
        if (nought(poly)) return no(-3);
        return doubled(hull(terms(polys.get(poly))));
    }

    int sum(int one, int other, int k) {
        if (nobody(one, other)) return no(-1);
        if (nought(one) || nought(other)) return no(-3);
        if (k < -1) return no(-4);
        List<int[]> h = hull(sums(one, other));
        return k == -1 ? doubled(h) : code(h, k);
    }

    int mixed(int one, int other) {
        if (nobody(one, other)) return no(-1);
        if (nought(one) || nought(other)) return no(-3);
        return (doubled(hull(sums(one, other))) - doubled(hull(terms(polys.get(one))))
            - doubled(hull(terms(polys.get(other))))) / 2;
    }

    int product(int one, int other) {
        if (nobody(one, other)) return no(-1);
        if (polys.size() == 6) return no(-6);
        int[][] c = new int[9][9];
        P a = polys.get(one);
        P b = polys.get(other);
        for (int[] s : terms(a)) {
            for (int[] t : terms(b)) {
                int i = s[0] + t[0];
                int j = s[1] + t[1];
                c[i][j] = mod(c[i][j] + (long) coef(a, s[0], s[1]) * coef(b, t[0], t[1]));
            }
        }
        P q = new P();
        for (int i = 0; i < 9; i++) {
            for (int j = 0; j < 9; j++) {
                if ((i > 4 || j > 4) && c[i][j] != 0) return no(-3);
                if (i < 5 && j < 5) q.told[i][j] = c[i][j];
            }
        }
        past.clear();
        polys.add(q);
        return polys.size() - 1;
    }

    long odds(int poly, int part) {
        if (nobody(poly)) return noLong(-1);
        if (part != 0 && part != 1) return noLong(-2);
        int above = commonRoots(poly, poly).size();
        int below = p * p;
        for (int d = below; d > 1; d--) {
            if (above % d == 0 && below % d == 0) {
                above /= d;
                below /= d;
            }
        }
        return part == 0 ? above : below;
    }

    int lots(int poly, int n, int z, int what) {
        if (nobody(poly)) return no(-1);
        if (n < 1) return no(-4);
        if (n > 50) return no(-6);
        if (what != 0 && what != 1) return no(-2);
        int often = 0;
        int together = 0;
        long seed = z;
        for (int k = 0; k < n; k++) {
            seed = (seed * 1664525L + 1013904223L) & 0xffffffffL;
            int x = (int) ((seed & 0x7fffffffL) >> 8) % p;
            seed = (seed * 1664525L + 1013904223L) & 0xffffffffL;
            int y = (int) ((seed & 0x7fffffffL) >> 8) % p;
            int v = val(polys.get(poly), x, y);
            often += v == 0 ? 1 : 0;
            together += v;
        }
        return what == 0 ? often : together;
    }

    int list(int list, int n) {
        if (list < 0 || list > 2) return no(-1);
        if (n > 40) return no(-6);
        if (n < 0) return -14;
        lists[list] = new int[n];
        return 1;
    }

    int put(int list, int i, int v) {
        if (list < 0 || list > 2) return no(-1);
        if (lists[list] == null) return -11;
        if (i < 0 || i >= lists[list].length) return -13;
        lists[list][i] = v;
        return 1;
    }

    long look(int list, int i) {
        if (list < 0 || list > 2) return noLong(-1);
        if (lists[list] == null) return 4000000000000000011L;
        if (i < 0 || i >= lists[list].length) return 4000000000000000013L;
        return lists[list][i];
    }

    int lays(int list, int i, int one, int other, int letter, int table) {
        if (list < 0 || list > 2) return no(-1);
        int n = pair(one, other, letter, table);
        if (n != 0) return no(n);
        if (lists[list] == null) return -11;
        if (i < 0 || i >= lists[list].length) return -13;
        int[] r = resultOf(one, other, letter, table);
        for (int place = i; place < lists[list].length; place++) {
            lists[list][place] = place - i < r.length ? r[place - i] : 0;
        }
        return lists[list].length - i;
    }

    int judge(int list, int one, int other, int letter, int table) {
        if (list < 0 || list > 2) return no(-1);
        int n = pair(one, other, letter, table);
        if (n != 0) return no(n);
        if (lists[list] == null) return -11;
        int[] r = resultOf(one, other, letter, table);
        for (int k = 0; k <= 40; k++) {
            int told = k < lists[list].length ? mod(lists[list][k]) : 0;
            if (told != (k < r.length ? r[k] : 0)) return k;
        }
        return -9;
    }

    int undo() {
        if (past.isEmpty()) return no(-3);
        polys = past.remove(past.size() - 1);
        return past.size();
    }

    int image() {
        imagePolys = copyAll(polys);
        imagePrime = p;
        return polys.size();
    }

    int on() {
        if (imagePolys == null) return no(-3);
        polys = copyAll(imagePolys);
        p = imagePrime;
        past.clear();
        return polys.size();
    }

    int count(int what) {
        switch (what) {
            case 0: return polys.size();
            case 1: return p;
            case 2: return polys.stream().mapToInt(q -> terms(q).size()).sum();
            case 3: return letters.length();
            case 4: return past.size();
            case 5: {
                int bits = 0;
                for (int a = 0; a < polys.size(); a++) {
                    bits |= nought(a) ? 1 << a : 0;
                }
                return bits;
            }
            default: return what > 10 && what < 17 ? refused[what - 10] : -9;
        }
    }
}
