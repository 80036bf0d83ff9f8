/**
 * Each sentence of the document that names a boundary case, in the document's order: the sentence stands with the
 * test that would fail if it were broken. Which of two refusals comes first, and that a refused call changes
 * nothing, is tried for every choice of arguments in RefusalsTest.
 */
public final class BoundariesTest {
    private static final long LONG = 4000000000000000000L;
    private static final int LEAST = Integer.MIN_VALUE;
    private static final int MOST = Integer.MAX_VALUE;
    private static final int[] PRIMES = {2, 3, 5, 7, 11, 13, 17, 19, 23, 29, 31};
    private static int wrong;
    private static int calls;
    private static String sentence = "";

    public static void main(String[] args) {
        numbersAndPolynomials();
        kinds();
        termsAndDegrees();
        tables();
        atNumbers();
        commonRoots();
        polygons();
        productsAndOdds();
        texts();
        lists();
        lots();
        undoing();
        images();
        refusals();
        callsOfPolynomials();
        callsOfResults();
        callsOfPolygons();
        callsOfLists();
        System.out.println(wrong == 0 ? calls + " answers are as due" : wrong + " answers are not as due");
        if (wrong != 0) {
            System.exit(1);
        }
    }

    /** The sentence that the answers from here on are due to. */
    private static void says(String text) {
        sentence = text;
    }

    private static void due(String call, long want, long got) {
        calls++;
        if (got != want) {
            wrong++;
            if (wrong <= 60) {
                System.out.println("\"" + sentence + "\": " + call + " answered " + got + ", due is " + want);
            }
        }
    }

    private static int mod(long v, int p) {
        return (int) (((v % p) + p) % p);
    }

    private static long power(long base, int exponent) {
        long power = 1;
        for (int k = 0; k < exponent; k++) {
            power *= base;
        }
        return power;
    }

    private static LettersEliminated by(int p, String... texts) {
        LettersEliminated x = new LettersEliminated();
        x.prime(p);
        for (String text : texts) {
            tell(x, text);
        }
        return x;
    }

    private static LettersEliminated of(String... texts) {
        return by(7, texts);
    }

    private static int tell(LettersEliminated x, String text) {
        for (int k = 0; k < text.length(); k++) {
            x.letter(text.charAt(k));
        }
        return x.poly();
    }

    /** One polynomial whose told number of x^i y^j is 5 i + j + 1: all 25 differ and none is 0 by 29 or 31. */
    private static LettersEliminated full(int p) {
        LettersEliminated x = by(p, "0");
        for (int k = 0; k < 25; k++) {
            x.change(0, k / 5, k % 5, k + 1);
        }
        return x;
    }

    private static int toldOfFull(int i, int j) {
        return 5 * i + j + 1;
    }

    // ---- section 1: numbers, polynomials, kinds

    private static void numbersAndPolynomials() {
        says("All numbers are 0 .. p less 1, modulo p (also what is below 0)");
        for (int p : PRIMES) {
            for (int v : new int[] {LEAST, -p - 1, -p, 1 - p, -1, 0, 1, p - 1, p, p + 1, 2 * p, MOST}) {
                LettersEliminated x = by(p, "0");
                x.change(0, 3, 2, v);
                due("change to " + v + " by " + p, mod(v, p), x.coefficient(0, 3, 2));
            }
            due("-1 by " + p, p - 1, by(p, "-1").coefficient(0, 0, 0));
            due("-99xy by " + p, mod(-99, p), by(p, "-99xy").coefficient(0, 1, 1));
            due("99 by " + p, 99 % p, by(p, "99").coefficient(0, 0, 0));
            due("the value p less 1", p - 1, by(p, "x").value(0, p - 1, 0));
            due("the value p less 1, plus 1", 0, by(p, "x+1").value(0, p - 1, 0));
            due("the value at p less 1 twice", 1, by(p, "x^4y^4").value(0, p - 1, p - 1));
        }
        says("THE PRIME: one of 2, 3, 5, 7, 11, 13, 17, 19, 23, 29, 31 (7 at first)");
        for (int n = -40; n <= 80; n++) {
            boolean known = false;
            for (int p : PRIMES) {
                known |= p == n;
            }
            LettersEliminated x = new LettersEliminated();
            due("prime(" + n + ")", known ? 7 : -3, x.prime(n));
            due("the prime after prime(" + n + ")", known ? n : 7, x.count(1));
            due("refusals after prime(" + n + ")", known ? 0 : 1, x.count(13));
        }
        says("LETTERS are 0 (x) and 1 (y)");
        LettersEliminated letters = of("x^3y", "x+y^2");
        due("letter 0 eliminates x", 4, letters.rows(0, 1, 0, 0));
        due("letter 1 eliminates y", 3, letters.rows(0, 1, 1, 0));
        due("letter -1", -1, letters.rows(0, 1, -1, 0));
        due("letter 2", -1, letters.rows(0, 1, 2, 0));
        says("POLYNOMIALS have numbers, 0 .. as they come, 6 at most");
        LettersEliminated six = new LettersEliminated();
        for (int n = 0; n < 6; n++) {
            due("number of one more", n, n % 2 == 0 ? tell(six, "2") : six.product(n - 1, 0));
        }
        due("a seventh", -6, tell(six, "x"));
        due("a seventh by product", -6, six.product(0, 0));
        due("the sixth", 0, six.of(5, 0));
        due("no seventh", -1, six.of(6, 0));
        due("none ahead of the first", -1, six.of(-1, 0));
        due("a place again", 5, six.drop());
        due("the number again", 5, six.poly());
        says("a FIGURE (0 .. 9)");
        for (int kind = 0; kind <= 5; kind++) {
            LettersEliminated x = of("x");
            due("figure 0", 0, x.turn(0, kind, 0));
            due("figure 9", 10 * kind, x.turn(0, kind, 9));
            due("figure 9 stays", 9, x.of(0, 1));
            due("figure 10", -6, x.turn(0, kind, 10));
            due("figure -1", -4, x.turn(0, kind, -1));
            due("figure 9 stays", 9, x.of(0, 1));
        }
        says("TOLD numbers of all x^i y^j, i and j 0 .. 4");
        for (int i = -1; i <= 5; i++) {
            for (int j = -1; j <= 5; j++) {
                LettersEliminated x = of("0");
                int refusal = i < 0 || j < 0 ? -4 : i > 4 || j > 4 ? -6 : 0;
                due("change at " + i + " " + j, refusal, x.change(0, i, j, 5));
                due("coefficient at " + i + " " + j, refusal == 0 ? 5 : refusal, x.coefficient(0, i, j));
                due("terms", refusal == 0 ? 1 : 0, x.of(0, 4));
                due("the term", refusal == 0 ? 10 * i + j : -9, x.term(0, 0, 0));
            }
        }
    }

    private static void kinds() {
        for (int p : new int[] {2, 3, 5, 7, 29, 31}) {
            for (int figure = 0; figure <= 9; figure++) {
                for (int kind = 0; kind <= 5; kind++) {
                    LettersEliminated x = full(p);
                    x.turn(0, kind, figure);
                    for (int k = 0; k < 25; k++) {
                        says("Their COEFFICIENTS by KIND");
                        due("kind " + kind + " figure " + figure + " by " + p + " of " + k / 5 + " " + k % 5,
                            byKind(kind, figure, k / 5, k % 5, p), x.coefficient(0, k / 5, k % 5));
                    }
                }
            }
        }
        says("EVEN under PLAIN: 0 where i is odd, else as of a PLAIN one");
        LettersEliminated even = of("x^4y^3+x^3y^4+x+y");
        even.turn(0, 1, 0);
        due("i 4, j 3", 1, even.coefficient(0, 4, 3));
        due("i 3, j 4", 0, even.coefficient(0, 3, 4));
        due("i 1", 0, even.coefficient(0, 1, 0));
        due("i 0, j 1", 1, even.coefficient(0, 0, 1));
        says("SHIFTED under PLAIN: those of a PLAIN one, if x plus FIGURE stands for x");
        LettersEliminated shifted = by(31, "x^4y^4");
        shifted.turn(0, 3, 9);
        due("9^4", mod(power(9, 4), 31), shifted.coefficient(0, 0, 4));
        due("4 times 9^3", mod(4 * power(9, 3), 31), shifted.coefficient(0, 1, 4));
        due("x^4", 1, shifted.coefficient(0, 4, 4));
        due("only with y^4", 0, shifted.coefficient(0, 0, 3));
        says("DERIVED under EVEN: .. (0 with i 4)");
        LettersEliminated derived = by(31, "x^4+x^3+x^2+x+1");
        derived.turn(0, 4, 9);
        int[] want = {0, 2, 0, 4, 0};
        for (int i = 0; i <= 4; i++) {
            due("i " + i, want[i], derived.coefficient(0, i, 0));
        }
        derived.prime(2);
        due("nought by 2", -9, derived.of(0, 2));
        says("each times FIGURE to the power j (to the power 0: 1)");
        LettersEliminated twisted = of("1+x+y+x^4");
        twisted.turn(0, 5, 0);
        due("0 to the power 0", 1, twisted.coefficient(0, 0, 0));
        due("0 to the power 0", 1, twisted.coefficient(0, 1, 0));
        due("0 to the power 1", 0, twisted.coefficient(0, 0, 1));
        due("0 to the power 4", 0, twisted.coefficient(0, 0, 4));
        twisted.turn(0, 5, 7);
        due("7 by 7 to the power 0", 1, twisted.coefficient(0, 1, 0));
        due("7 by 7 to the power 1", 0, twisted.coefficient(0, 0, 1));
        twisted.turn(0, 5, 9);
        due("9 to the power 4", mod(power(9, 4), 7), twisted.coefficient(0, 0, 4));
    }

    private static int byKind(int kind, int figure, int i, int j, int p) {
        switch (kind) {
            case 0: return mod(toldOfFull(i, j), p);
            case 1: return i % 2 == 1 ? 0 : mod(toldOfFull(i, j), p);
            case 2: return mod(toldOfFull(j, i), p);
            case 3: {
                int[][] choose = {{1}, {1, 1}, {1, 2, 1}, {1, 3, 3, 1}, {1, 4, 6, 4, 1}};
                long sum = 0;
                for (int a = i; a <= 4; a++) {
                    sum += choose[a][i] * power(figure, a - i) * mod(toldOfFull(a, j), p);
                }
                return mod(sum, p);
            }
            case 4: return i == 4 || i % 2 == 0 ? 0 : mod((i + 1) * toldOfFull(i + 1, j), p);
            default: return mod(toldOfFull(j, i) * power(figure, j), p);
        }
    }

    private static void termsAndDegrees() {
        says("DEGREE in a letter: the greatest power of it in a TERM; -9 without TERMS");
        LettersEliminated x = of("0", "5", "x^4", "y^4", "x^4y^4");
        int[][] want = {{-9, -9, 0, -9}, {0, 0, 1, 0}, {4, 0, 1, 4}, {0, 4, 1, 4}, {4, 4, 1, 8}};
        for (int poly = 0; poly < 5; poly++) {
            for (int what = 2; what <= 5; what++) {
                due("of(" + poly + ", " + what + ")", want[poly][what - 2], x.of(poly, what));
            }
        }
        says("TERMS: those x^i y^j whose COEFFICIENT isn't 0");
        LettersEliminated gone = of("3x^4+y");
        gone.change(0, 4, 0, 7);
        due("a number that is p is no term", 1, gone.of(0, 4));
        due("nor does it count for the degree", 0, gone.of(0, 2));
        gone.turn(0, 1, 0);
        gone.change(0, 3, 0, 1);
        due("told, but no coefficient", 0, gone.of(0, 2));
        says("in ORDER 0: those of greater i ahead, of like i those of greater j");
        LettersEliminated all = full(29);
        for (int k = 0; k < 25; k++) {
            due("term " + k, 10 * (4 - k / 5) + 4 - k % 5, all.term(0, 0, k));
        }
        due("there are not so many", -9, all.term(0, 0, 25));
        says("in ORDER 1: those of greater i plus j ahead, of like ones those of greater i");
        int k = 0;
        for (int whole = 8; whole >= 0; whole--) {
            for (int i = 4; i >= 0; i--) {
                if (whole - i >= 0 && whole - i <= 4) {
                    due("term " + k, 10 * i + whole - i, all.term(0, 1, k++));
                }
            }
        }
        due("there are not so many", -9, all.term(0, 1, 25));
        says("A POLYNOMIAL without TERMS is NOUGHT");
        LettersEliminated noughts = of("0", "7x", "x-x", "x", "14y^4-7", "x");
        noughts.turn(3, 1, 0);
        due("the bits", 1 + 2 + 4 + 8 + 16, noughts.count(5));
        due("nought by its kind", -3, noughts.area(3));
        due("not nought", 0, noughts.area(5));
        noughts.change(5, 1, 0, 0);
        due("all of them", 63, noughts.count(5));
        noughts.undo();
        noughts.undo();
        due("no more nought", 1 + 2 + 4 + 16, noughts.count(5));
    }

    // ---- section 2: tables, results

    private static void tables() {
        says("TABLE 0 (SYLVESTER) has m plus n rows and columns, numbered from 0 .. (0 with a below 0 or above m)");
        // P(a) is (a + 1) y^a, Q(a) is (a + 6) y^(4 - a), for a 0 .. 4
        LettersEliminated x = by(31, "1+2xy+3x^2y^2+4x^3y^3+5x^4y^4", "6y^4+7xy^3+8x^2y^2+9x^3y+10x^4");
        due("most rows", 8, x.rows(0, 1, 0, 0));
        for (int r = 0; r < 8; r++) {
            for (int c = 0; c < 8; c++) {
                int a = 4 + (r < 4 ? r : r - 4) - c;
                boolean there = a >= 0 && a <= 4;
                int k = r < 4 ? a : 4 - a;
                due("entry " + r + " " + c, there ? a + (r < 4 ? 1 : 6) : 0,
                    x.entry(0, 1, 0, 0, r, c, there ? k : 0));
                due("entry " + r + " " + c + ", power 8", 0, x.entry(0, 1, 0, 0, r, c, 8));
            }
        }
        due("no row 8", -6, x.entry(0, 1, 0, 0, 8, 7, 8));
        due("no column 8", -6, x.entry(0, 1, 0, 0, 7, 8, 8));
        says("with m or n 0 TABLE 0 has rows of one alone");
        LettersEliminated low = of("y+2", "3x^2+y^2");
        due("n rows", 2, low.rows(0, 1, 0, 0));
        due("P on the way down", 1, low.entry(0, 1, 0, 0, 0, 0, 1));
        due("P on the way down", 2, low.entry(0, 1, 0, 0, 1, 1, 0));
        due("beside it", 0, low.entry(0, 1, 0, 0, 0, 1, 0));
        due("m rows", 2, low.rows(1, 0, 0, 0));
        due("(y + 2)^2", 4, low.result(0, 1, 0, 0, 1));
        due("(y + 2)^2", 2, low.degree(1, 0, 0, 0));
        bezout();
        says("RESULT: the determinant of a TABLE, a polynomial of the other letter (of one without rows: 1)");
        LettersEliminated none = of("3", "y^4+2", "x^3");
        for (int table = 0; table <= 1; table++) {
            due("no rows", 0, none.rows(0, 1, 0, table));
            due("power 0", 1, none.result(0, 1, 0, table, 0));
            due("power 1", 0, none.result(0, 1, 0, table, 1));
            due("power 40", 0, none.result(0, 1, 0, table, 40));
            due("degree", 0, none.degree(0, 1, 0, table));
            due("at 6", 1, none.at(0, 1, 0, table, 6));
            due("no rows in y", 0, none.rows(2, 0, 1, table));
            due("power 0 in y", 1, none.result(2, 0, 1, table, 0));
            due("no place in it", -6, none.entry(0, 1, 0, table, 0, 0, 0));
        }
        says("RESULT .. 0: DEGREE -9");
        LettersEliminated same = of("x+y", "2x+2y");
        due("sylvester", -9, same.degree(0, 1, 0, 0));
        due("bezout", -9, same.degree(0, 1, 1, 1));
        due("its number", 0, same.result(0, 1, 0, 0, 0));
        due("its value", 0, same.at(0, 1, 0, 0, 3));
        says("RESULT: .. (0 .. 40; 0 above its DEGREE)");
        LettersEliminated great = by(31, "x^4y^4+1", "x^4+y^4");
        due("the greatest degree", 32, great.degree(0, 1, 0, 0));
        due("and of bezout", 32, great.degree(0, 1, 0, 1));
        int[] choose = {1, 4, 6, 4, 1};
        for (int k = 0; k <= 40; k++) {
            // (y^8 - 1)^4
            int want = k % 8 == 0 && k <= 32 ? mod(choose[k / 8] * (k % 16 == 0 ? 1 : -1), 31) : 0;
            due("power " + k, want, great.result(0, 1, 0, 0, k));
            due("power " + k + " of bezout", want, great.result(0, 1, 0, 1, k));
        }
        due("power 41", -6, great.result(0, 1, 0, 0, 41));
        due("power -1", -4, great.result(0, 1, 0, 0, -1));
    }

    private static void bezout() {
        says("TABLE 1 (BEZOUT) has N of each, N being the greater of m and n");
        LettersEliminated x = of("x^4+y", "x+1", "y^2", "y+3");
        due("m greater", 4, x.rows(0, 1, 0, 1));
        due("n greater", 4, x.rows(1, 0, 0, 1));
        due("n 0", 4, x.rows(0, 2, 0, 1));
        due("alike", 1, x.rows(1, 1, 0, 1));
        due("both 0", 0, x.rows(2, 3, 0, 1));
        due("the last row", 1, x.entry(0, 1, 0, 1, 3, 0, 0));
        due("no row N", -6, x.entry(0, 1, 0, 1, 4, 0, 0));
        due("no column N", -6, x.entry(1, 0, 0, 1, 0, 4, 0));
        says("the sum, for all k from 0 to the lesser of r and N less 1 less c");
        // P(a) is a + 1, Q(a) is (a + 2)^2, each times y^4: every cell by the sum itself
        LettersEliminated y = by(31, "y^4+2xy^4+3x^2y^4+4x^3y^4+5x^4y^4", "4y^4+9xy^4+16x^2y^4+25x^3y^4+5x^4y^4");
        int[] p = {1, 2, 3, 4, 5};
        int[] q = {4, 9, 16, 25, 5};
        for (int r = 0; r < 4; r++) {
            for (int c = 0; c < 4; c++) {
                int sum = 0;
                for (int k = 0; k <= r && k <= 3 - c; k++) {
                    sum += p[c + k + 1] * q[r - k] - p[r - k] * q[c + k + 1];
                }
                due("row " + r + " column " + c, mod(sum, 31), y.entry(0, 1, 0, 1, r, c, 8));
                due("row " + r + " column " + c + ", turned about", mod(-sum, 31), y.entry(1, 0, 0, 1, r, c, 8));
                due("row " + r + " column " + c + ", power 7", 0, y.entry(0, 1, 0, 1, r, c, 7));
            }
        }
        due("power 9", -6, y.entry(0, 1, 0, 1, 0, 0, 9));
        LettersEliminated below = of("x+1", "x+2");
        due("2 less 1", 1, below.entry(0, 1, 0, 1, 0, 0, 0));
        due("1 less 2", 6, below.entry(1, 0, 0, 1, 0, 0, 0));
    }

    private static void atNumbers() {
        // with y 0: 0 is x^2 + 1, 1 is 0, 2 is 0, 3 is 3, 4 is x^4, 5 is x^3
        LettersEliminated x = of("x^2+1+y", "xy", "x^4y+y", "3+xy", "x^4+y", "x^3+y");
        says("those that aren't 0, from P on, also if Q's DEGREE is greater (then P comes again");
        degrees(x, 0, 4, 2, 4, 2, 0);
        degrees(x, 3, 0, 0, 2, 0);
        says("if P is 0 then: Q alone");
        degrees(x, 1, 4, 4);
        degrees(x, 1, 3, 0);
        says("Q 0: P alone");
        degrees(x, 4, 1, 4);
        degrees(x, 3, 2, 0);
        says("both 0: none");
        degrees(x, 1, 2);
        says("as long as the last one isn't 0");
        degrees(x, 4, 5, 4, 3);
        degrees(x, 5, 4, 3, 4, 3);
        degrees(x, 4, 4, 4, 4);
        degrees(x, 3, 3, 0, 0);
        degrees(x, 4, 0, 4, 2, 0);
        says("a polynomial of less DEGREE than the last");
        // x^4 + x^3 + 1 and x^3 + x: x^4 + x^3 + 1 = (x + 1)(x^3 + x) - x^2 - x + 1, and so on
        LettersEliminated falls = of("x^4+x^3+1", "x^3+x");
        degrees(falls, 0, 1, 4, 3, 2, 1, 0);
        degrees(falls, 1, 0, 3, 4, 3, 2, 1, 0);
        norms();
        says("EXTRA: the DEGREE of the greatest common divisor of P(m) and Q(n)");
        LettersEliminated extra = of("xy^4", "x^2y^4+x", "3", "x+y^4", "x^3y-x^3", "x^4y^3");
        due("the greatest", 4, extra.extra(0, 1, 0));
        due("with itself", 4, extra.extra(0, 0, 0));
        due("numbers alone", 0, extra.extra(2, 2, 0));
        due("a number", 0, extra.extra(0, 3, 0));
        due("y less 1 and y^3", 0, extra.extra(4, 5, 0));
        due("y^4 and y^3", 3, extra.extra(0, 5, 0));
        due("in y", 1, extra.extra(0, 1, 1));
        says("ZEROS: numbers v (bits) for which the RESULT of TABLE 0 is 0");
        due("none: 1", 0, of("3").zeros(0, 0, 0));
        due("all: RESULT is 0", 127, of("x+y").zeros(0, 0, 0));
        due("all of 31", MOST, by(31, "x+y").zeros(0, 0, 1));
        due("both of 2", 3, by(2, "x+y").zeros(0, 0, 1));
        due("0 alone", 1, of("x", "x+y").zeros(0, 1, 0));
        due("p less 1 alone", 64, of("x", "x+y+1").zeros(0, 1, 0));
        due("30 alone", 1 << 30, by(31, "x", "x+y+1").zeros(0, 1, 0));
    }

    /** The remainders' degrees at 0, without x. */
    private static void degrees(LettersEliminated x, int one, int other, int... want) {
        String who = one + " " + other;
        due("how many of " + who, want.length, x.remainder(one, other, 0, 0, -1));
        for (int k = 0; k < want.length; k++) {
            due("degree " + k + " of " + who, want[k], x.remainder(one, other, 0, 0, k));
        }
        due("no more of " + who, -9, x.remainder(one, other, 0, 0, want.length));
        due("far more of " + who, -9, x.remainder(one, other, 0, 0, MOST));
        due("common of " + who, want.length == 0 ? -9 : want[want.length - 1], x.common(one, other, 0, 0));
    }

    private static void norms() {
        LettersEliminated x = of("x^2+y+1", "xy", "5+xy", "x^4+y+2", "x+3", "x^3+y");
        says("NORM: .. -9: P is 0 then");
        due("P 0", -9, x.norm(1, 0, 0, 0));
        due("both 0", -9, x.norm(1, 1, 0, 0));
        says("with d 0: 1");
        due("P a number", 1, x.norm(2, 0, 0, 0));
        due("P a number, Q 0", 1, x.norm(2, 1, 0, 0));
        says("with P of DEGREE d above 0 and Q 0: 0");
        due("d 2", 0, x.norm(0, 1, 0, 0));
        due("d 4", 0, x.norm(3, 1, 0, 0));
        says("the determinant of the table with d rows and columns");
        // Q a number: it to the power d
        due("d 1, Q a number", 5, x.norm(4, 2, 0, 0));
        due("d 4, Q a number", mod(power(5, 4), 7), x.norm(3, 2, 0, 0));
        // Q = x + 3 and P = x^4 + 2: P at -3 is 83
        due("d 4", mod(83, 7), x.norm(3, 4, 0, 0));
        // P = x + 3: Q at -3, for the number y that P hasn't
        due("d 1", mod(81 + 2, 7), x.norm(4, 3, 0, 0));
        due("d 1", mod(-27, 7), x.norm(4, 5, 0, 0));
        due("P and Q have a root in common", 0, x.norm(4, 4, 0, 6));
    }

    private static void commonRoots() {
        says("COMMON ROOTS: .. in order of x, then of y (all p times p are tried; of NOUGHT ones too)");
        for (int p : new int[] {2, 7, 31}) {
            LettersEliminated x = by(p, "0", "x", "y", "1", "x+1", "y+1");
            due("all", p * p, x.root(0, 0, -1));
            due("the first", 0, x.root(0, 0, 0));
            due("then of y", 1, x.root(0, 0, 1));
            due("then of x", 100, x.root(0, 0, p));
            due("the last", 101 * (p - 1), x.root(0, 0, p * p - 1));
            due("there are not so many", -9, x.root(0, 0, p * p));
            due("nought and x", p, x.root(0, 1, -1));
            due("nought and x, the last", p - 1, x.root(1, 0, p - 1));
            due("nought and x, no more", -9, x.root(1, 0, p));
            due("0 0 alone", 1, x.root(1, 2, -1));
            due("0 0", 0, x.root(1, 2, 0));
            due("none", 0, x.root(3, 0, -1));
            due("none", -9, x.root(3, 0, 0));
            due("the greatest alone", 101 * (p - 1), x.root(4, 5, 0));
            says("LIFTED: numbers v (bits) that the other letter (the one that is not told) has in some COMMON ROOT");
            int all = (int) ((1L << p) - 1);
            due("all y", all, x.lifted(0, 0, 0));
            due("all x", all, x.lifted(0, 0, 1));
            due("y of x = 0", all, x.lifted(0, 1, 0));
            due("x of x = 0", 1, x.lifted(0, 1, 1));
            due("y of y = p less 1", 1 << p - 1, x.lifted(5, 0, 0));
            due("x of y = p less 1", all, x.lifted(5, 0, 1));
            due("none", 0, x.lifted(3, 3, 0));
            says("WITHOUT NOUGHTS: how many COMMON ROOTS have x and y both unlike 0");
            due("of all", (p - 1) * (p - 1), x.without(0, 0));
            due("x 0", 0, x.without(0, 1));
            due("y 0", 0, x.without(0, 2));
            due("x p less 1", p - 1, x.without(0, 4));
            due("one", 1, x.without(4, 5));
            due("none", 0, x.without(3, 0));
            says("COMMON ROOTS: .. in order of x, then of y (all p times p are tried; of NOUGHT ones too)");
        }
    }

    // ---- section 3: polygons

    private static void polygons() {
        says("of one point that one");
        corners("x^4y^4", 0, 44);
        corners("3", 0, 0);
        says("of points in a line both ends");
        corners("1+x+x^4", 0, 0, 40);
        corners("y+y^2+y^4", 0, 1, 4);
        corners("1+xy+x^2y^2+x^4y^4", 0, 0, 44);
        corners("x^4+x^2y^2+y^4", 0, 4, 40);
        corners("x^2y+x^4y^2", 0, 21, 42);
        corners("x^4y^3+x^4y^4", 0, 43, 44);
        corners("1+y", 0, 0, 1);
        corners("1+x", 0, 0, 10);
        says("from the one of least i (of like ones of least j) on");
        corners("xy^3+xy+x^3y^2", 4, 11, 32, 13);
        corners("xy^4+x^2+x^3y^4", 8, 14, 20, 34);
        says("the one way about by which the inside lies to the left");
        corners("1+x^4+y^4", 16, 0, 40, 4);
        corners("y^2+x^2+x^4y^2+x^2y^4", 16, 2, 20, 42, 24);
        says("points on a side between two CORNERS are none");
        corners("1+x+x^2+x^3+x^4+x^4y+x^4y^2+x^4y^3+x^4y^4+x^3y^4+x^2y^4+xy^4+y^4+y^3+y^2+y", 32, 0, 40, 44, 4);
        corners("1+x^2y+x^4y^2+x^4+x", 8, 0, 40, 42);
        says("the least convex one that has all points (i, j) of its TERMS");
        LettersEliminated all = full(29);
        due("area of all", 32, all.area(0));
        due("corner 3 of all", 4, all.corner(0, 3));
        due("no corner 4", -9, all.corner(0, 4));
        // most corners: the eight of a cut square
        corners("x+x^3+y+y^3+x^4y+x^4y^3+xy^4+x^3y^4", 28, 1, 10, 30, 41, 43, 34, 14, 3);
        says("SUM of two: the POLYGON of all points that are a point of the one plus a point of the other");
        LettersEliminated sums = of("1+x^4+y^4+x^4y^4", "x^4y^4", "1", "1+x^4", "1+y^4", "x^4+y^4");
        sum(sums, 0, 0, 128, 0, 80, 88, 8);
        sum(sums, 1, 1, 0, 88);
        sum(sums, 2, 2, 0, 0);
        sum(sums, 3, 3, 0, 0, 80);
        sum(sums, 3, 4, 32, 0, 40, 44, 4);
        sum(sums, 3, 5, 32, 4, 40, 80, 44);
        sum(sums, 0, 1, 32, 44, 84, 88, 48);
        says("MIXED: (AREA of the SUM less both AREAS) divided by 2");
        due("the greatest", 32, sums.mixed(0, 0));
        due("with a point", 0, sums.mixed(0, 1));
        due("two points", 0, sums.mixed(1, 2));
        due("a line with itself", 0, sums.mixed(3, 3));
        due("two lines", 16, sums.mixed(3, 4));
        due("line and square", 16, sums.mixed(3, 0));
    }

    private static void corners(String text, int area, int... want) {
        LettersEliminated x = of(text);
        due("area of " + text, area, x.area(0));
        for (int k = 0; k < want.length; k++) {
            due("corner " + k + " of " + text, want[k], x.corner(0, k));
        }
        due("no more of " + text, -9, x.corner(0, want.length));
        due("far more of " + text, -9, x.corner(0, MOST));
    }

    private static void sum(LettersEliminated x, int one, int other, int area, int... want) {
        String who = one + " and " + other;
        due("area of " + who, area, x.sum(one, other, -1));
        due("area of " + who + " turned about", area, x.sum(other, one, -1));
        for (int k = 0; k < want.length; k++) {
            due("corner " + k + " of " + who, want[k], x.sum(one, other, k));
        }
        due("no more of " + who, -9, x.sum(one, other, want.length));
        due("far more of " + who, -9, x.sum(one, other, MOST));
    }

    private static void productsAndOdds() {
        says("PRODUCT: a PLAIN one of FIGURE 0 with the COEFFICIENTS of two multiplied");
        LettersEliminated x = of("x+2y^2", "x^2y+3");
        x.turn(0, 5, 3);
        x.turn(1, 2, 4);
        // twisted: x^2 2 + 3 y; swapped: y^2 x + 3
        due("its number", 2, x.product(0, 1));
        due("kind", 0, x.of(2, 0));
        due("figure", 0, x.of(2, 1));
        due("terms", 4, x.of(2, 4));
        due("2 x^3 y^2", 2, x.coefficient(2, 3, 2));
        due("3 x y^3", 3, x.coefficient(2, 1, 3));
        due("6 x^2", 6, x.coefficient(2, 2, 0));
        due("9 y", 2, x.coefficient(2, 0, 1));
        x.turn(2, 3, 9);
        x.drop();
        due("its number again", 2, x.product(1, 1));
        due("nothing is left of the dropped one", 3, x.of(2, 4));
        due("plain again", 0, 10 * x.of(2, 0) + x.of(2, 1));
        says("-3 a TERM of it would have a power above 4");
        for (int one = 0; one <= 4; one++) {
            for (int other = 0; other <= 4; other++) {
                LettersEliminated powers = of("0", "0");
                powers.change(0, one, 4 - one, 1);
                powers.change(1, other, 0, 1);
                int due = one + other > 4 ? -3 : 2;
                due("x^" + one + " x^" + other, due, powers.product(0, 1));
                powers = of("0", "0");
                powers.change(0, 4 - one, one, 1);
                powers.change(1, 0, other, 1);
                due("y^" + one + " y^" + other, due, powers.product(0, 1));
            }
        }
        LettersEliminated told = of("x^3+x^2", "x^2");
        told.turn(0, 4, 0);
        due("by coefficients, not by what is told", 2, told.product(0, 1));
        due("2 x^3", 2, told.coefficient(2, 3, 0));
        LettersEliminated nought = of("x^4y^4", "0");
        due("with nought", 2, nought.product(0, 1));
        due("is nought", 6, nought.count(5));
        due("nought with nought", 3, nought.product(1, 1));
        says("-6 six there are; -3 a TERM of it would have a power above 4");
        LettersEliminated six = of("x^4", "x", "x", "x", "x");
        due("-3 with five", -3, six.product(0, 1));
        due("the sixth", 5, six.product(1, 2));
        due("-6 with six, ahead of -3", -6, six.product(0, 1));
        due("-1 with six, ahead of -6", -1, six.product(0, 6));
        says("Fractions are told in least terms; 0 as 0 by 1");
        for (int p : PRIMES) {
            LettersEliminated odds = by(p, "1", "0", "x", "xy", "x^2-x");
            odds(odds, 0, 0, 1);
            odds(odds, 1, 1, 1);
            odds(odds, 2, 1, p);
            odds(odds, 3, 2 * p - 1, p * p);
            odds(odds, 4, p == 2 ? 1 : 2, p == 2 ? 1 : p);
        }
    }

    private static void odds(LettersEliminated x, int poly, int above, int below) {
        due("above the line of " + poly, above, x.odds(poly, 0));
        due("below the line of " + poly, below, x.odds(poly, 1));
    }

    // ---- texts

    private static final String DIGITS = "0123456789";
    /** Texts that lead to each state of the reading; the first two lack a TERM. */
    private static final String[] AHEAD = {"", "-", "7", "07", "x", "x^", "x^4", "y", "y^", "y^1", "3xy+", "12x^2y-"};
    private static final int[] STATE = {0, 1, 2, 3, 4, 5, 6, 7, 8, 9, 1, 1};

    /** The state of the reading behind a letter; -1 if no text goes on with it. */
    private static int next(int state, char c) {
        boolean digit = DIGITS.indexOf(c) >= 0;
        boolean powerDigit = c >= '1' && c <= '4';
        boolean sign = c == '+' || c == '-';
        switch (state) {
            case 0: return c == '-' ? 1 : next(1, c);
            case 1: return digit ? 2 : c == 'x' ? 4 : c == 'y' ? 7 : -1;
            case 2: return digit ? 3 : next(3, c);
            case 3: return c == 'x' ? 4 : c == 'y' ? 7 : sign ? 1 : -1;
            case 4: return c == '^' ? 5 : next(6, c);
            case 5: return powerDigit ? 6 : -1;
            case 6: return c == 'y' ? 7 : sign ? 1 : -1;
            case 7: return c == '^' ? 8 : next(9, c);
            case 8: return powerDigit ? 9 : -1;
            default: return sign ? 1 : -1;
        }
    }

    private static boolean lacks(int state) {
        return state == 0 || state == 1 || state == 5 || state == 8;
    }

    private static int answerTo(String text) {
        int state = 0;
        for (int k = 0; k < text.length(); k++) {
            state = next(state, text.charAt(k));
            if (state < 0) {
                return -1000 - k;
            }
        }
        return lacks(state) ? -1000 - text.length() : 0;
    }

    private static void texts() {
        says("FAULT: the place (from 0) of the first letter with which no such text goes on (the number of letters, if something lacks)");
        for (int k = 0; k < AHEAD.length; k++) {
            for (char c = 0; c < 256; c++) {
                int state = next(STATE[k], c);
                int due = state < 0 ? -1000 - AHEAD[k].length() : lacks(state) ? -1001 - AHEAD[k].length() : 0;
                due(AHEAD[k] + " and letter " + (int) c, due, tell(new LettersEliminated(), AHEAD[k] + c));
            }
            due(AHEAD[k], lacks(STATE[k]) ? -1000 - AHEAD[k].length() : 0, tell(new LettersEliminated(), AHEAD[k]));
        }
        String letters = "-+xy^0459";
        LettersEliminated x = new LettersEliminated();
        for (int n = 0; n < 9 * 9 * 9 * 9 * 9; n++) {
            String text = "";
            for (int rest = n, k = 0; k < 5; k++, rest /= 9) {
                text += letters.charAt(rest % 9);
            }
            if (n % 60 == 0) {
                x = new LettersEliminated();
            }
            due(text, answerTo(text), tell(x, text));
            if (x.count(0) > 0) {
                x.drop();
            }
        }
        says("a number (1 or 2 digits, 0 ahead, too, as many as stand there)");
        told("0", 0, 0, 0);
        told("9", 0, 0, 9);
        told("00", 0, 0, 0);
        told("00x", 1, 0, 0);
        told("05x", 1, 0, 5);
        told("50x", 1, 0, 50 % 31);
        told("99x^4y^4", 4, 4, 99 % 31);
        told("10-01", 0, 0, 9);
        due("three digits", -1002, tell(new LettersEliminated(), "100"));
        says("POWERS: x, or x^ and a digit 1 .. 4, then perhaps y, or y^ and such a digit; or the latter alone");
        for (int i = 0; i <= 9; i++) {
            for (int j = 0; j <= 9; j++) {
                LettersEliminated both = new LettersEliminated();
                int due = i < 1 || i > 4 ? -1003 : j < 1 || j > 4 ? -1006 : 0;
                due("2x^" + i + "y^" + j, due, tell(both, "2x^" + i + "y^" + j));
                due("2x^" + i + "y^" + j + ", how many", due == 0 ? 1 : 0, both.count(0));
                due("its term", due == 0 ? 10 * i + j : -1, both.term(0, 0, 0));
            }
            due("x^" + i, i < 1 || i > 4 ? -1002 : 0, tell(new LettersEliminated(), "x^" + i));
            due("y^" + i, i < 1 || i > 4 ? -1002 : 0, tell(new LettersEliminated(), "y^" + i));
        }
        told("x", 1, 0, 1);
        told("y", 0, 1, 1);
        told("-y^4", 0, 4, 30);
        told("xy", 1, 1, 1);
        says("What TERMS of like powers have is added up");
        told("x+x", 1, 0, 2);
        told("30x+x", 1, 0, 0);
        told("x^1-2x", 1, 0, 30);
        told("-99-99-99-99-99-99-99-99-99-99-99-99-99-99-99-99-99-99-99-99-99-99-99-99", 0, 0, mod(-99 * 24, 31));
        told("5+0+99y+1-y", 0, 0, 6);
        says("it is PLAIN, its FIGURE 0");
        LettersEliminated plain = of("x^2+y");
        plain.turn(0, 5, 9);
        plain.drop();
        tell(plain, "x");
        due("kind", 0, plain.of(0, 0));
        due("figure", 0, plain.of(0, 1));
        due("one term", 1, plain.of(0, 4));
        longTexts();
    }

    private static void told(String text, int i, int j, int want) {
        LettersEliminated x = by(31);
        due(text, 0, tell(x, text));
        due("coefficient of " + text, want, x.coefficient(0, i, j));
    }

    private static void longTexts() {
        says("A POLYNOMIAL is told in letters (72 at most)");
        String seventyOne = "x";
        while (seventyOne.length() < 71) {
            seventyOne += "+x";
        }
        LettersEliminated x = of(seventyOne);
        due("71: 36 x", 1, x.coefficient(0, 1, 0));
        x = of(seventyOne + "y");
        due("72: xy", 1, x.coefficient(0, 1, 1));
        x = of(seventyOne + "y?");
        due("the 73rd never came", 1, x.coefficient(0, 1, 1));
        due("the 73rd was refused", 1, x.count(16));
        due("a fault at 71", -1071, tell(new LettersEliminated(), seventyOne + "x"));
        due("something lacks at 72", -1072, tell(new LettersEliminated(), seventyOne + "+"));
        due("something lacks at 72", -1072, tell(new LettersEliminated(), seventyOne + "^"));
        due("after a fault there is room again", 1, x.letter('x'));
    }

    // ---- lists, lots

    private static void lists() {
        says("LISTS 0 .. 2 are rows of ints (40 at most), missing at first");
        for (int list = 0; list <= 2; list++) {
            LettersEliminated x = of("x+y", "y");
            due("put", -11, x.put(list, 0, 1));
            due("look", LONG + 11, x.look(list, 0));
            due("lays", -11, x.lays(list, 0, 0, 1, 0, 0));
            due("judge", -11, x.judge(list, 0, 1, 0, 0));
            due("40 places", 1, x.list(list, 40));
            due("the last", 1, x.put(list, 39, LEAST));
            due("the last", LEAST, x.look(list, 39));
            due("none behind it", -13, x.put(list, 40, 1));
            due("41 places", -6, x.list(list, 41));
            due("still as it was", LEAST, x.look(list, 39));
            for (int other = 0; other <= 2; other++) {
                if (other != list) {
                    due("another list is missing still", -11, x.put(other, 0, 1));
                }
            }
        }
        LettersEliminated none = new LettersEliminated();
        due("list -1", -1, none.list(-1, 4));
        due("list 3", -1, none.list(3, 4));
        says("A LIST becomes a row of n ints, all 0: 1. .. -14");
        LettersEliminated x = new LettersEliminated();
        due("made", 1, x.list(1, 5));
        for (int i = 0; i < 5; i++) {
            x.put(1, i, i + 1);
        }
        due("a size below 0", -14, x.list(1, -1));
        due("still as it was", 5, x.look(1, 4));
        due("the same size again", 1, x.list(1, 5));
        for (int i = 0; i < 5; i++) {
            due("all 0", 0, x.look(1, i));
            x.put(1, i, i + 1);
        }
        x.list(1, 2);
        due("shorter", LONG + 13, x.look(1, 2));
        x.list(1, 5);
        for (int i = 0; i < 5; i++) {
            due("longer again: all 0", 0, x.look(1, i));
        }
        due("of no places", 1, x.list(1, 0));
        due("it isn't missing", -13, x.put(1, 0, 1));
        due("it isn't missing", LONG + 13, x.look(1, 0));
        due("nothing was counted", 0, x.count(11) + x.count(12) + x.count(13) + x.count(14) + x.count(15) + x.count(16));
        says("A LIST tells a polynomial by its numbers (any ints; modulo p)");
        LettersEliminated any = of("x+y", "1");
        // RESULT of x + y and 1 without x is 1
        for (int v : new int[] {1, -6, 8, 7 * 306783378 + 1, -7 * 306783378 + 1}) {
            any.list(0, 1);
            any.put(0, 0, v);
            due("number " + v, -9, any.judge(0, 0, 1, 0, 0));
        }
        for (int v : new int[] {0, 2, -1, LEAST + 1, LEAST, MOST - 1}) {
            any.put(0, 0, v);
            due("number " + v, mod(v, 7) == 1 ? -9 : 0, any.judge(0, 0, 1, 0, 0));
        }
        judged();
    }

    private static void judged() {
        says("the first power whose number is otherwise (where it ends: 0; up to 40); -9");
        // (y^8 - 1)^4 by 7: powers 0, 8, 16, 24, 32
        LettersEliminated x = of("x^4y^4+1", "x^4+y^4", "x+y");
        x.list(0, 40);
        due("laid", 40, x.lays(0, 0, 0, 1, 0, 0));
        due("so", -9, x.judge(0, 0, 1, 0, 0));
        for (int k = 0; k < 40; k++) {
            int was = (int) x.look(0, k);
            x.put(0, k, was + 1);
            due("otherwise at " + k, k, x.judge(0, 0, 1, 0, 0));
            x.put(0, k, was + 14);
            due("like it by 7", -9, x.judge(0, 0, 1, 0, 0));
            x.put(0, k, was);
        }
        x.list(1, 33);
        x.lays(1, 0, 0, 1, 0, 0);
        due("ends behind power 32", -9, x.judge(1, 0, 1, 0, 0));
        x.list(1, 32);
        x.lays(1, 0, 0, 1, 0, 0);
        due("ends ahead of power 32", 32, x.judge(1, 0, 1, 0, 0));
        x.list(1, 1);
        x.lays(1, 0, 0, 1, 0, 0);
        due("ends behind power 0", 8, x.judge(1, 0, 1, 0, 0));
        x.list(1, 0);
        due("ends at once", 0, x.judge(1, 0, 1, 0, 0));
        due("ends at once, RESULT 0", -9, x.judge(1, 2, 2, 0, 0));
        x.list(1, 40);
        due("all 0, RESULT 0", -9, x.judge(1, 2, 2, 0, 1));
        x.put(1, 39, 1);
        due("1 at 39, RESULT 0", 39, x.judge(1, 2, 2, 0, 1));
    }

    /** Draws by longs, so that nothing of an int's wrapping around is taken over. */
    private static int drawn(int n, long seed, int p, int what, boolean byX) {
        long z = seed;
        int together = 0;
        int zeros = 0;
        for (int k = 0; k < 2 * n; k++) {
            z = Math.floorMod(z * 1664525L + 1013904223L, 1L << 32);
            long number = z % (1L << 31) / 256 % p;
            if (byX == (k % 2 == 0)) {
                together += (int) number;
                zeros += number == 0 ? 1 : 0;
            }
        }
        return what == 0 ? zeros : together;
    }

    private static void lots() {
        says("LOTS with a seed z: n times (1 .. 50) a pair of numbers, x by a DRAW below p, then y");
        for (int p : PRIMES) {
            for (int z : new int[] {LEAST, -1013904223, -1, 0, 1, 12345, MOST}) {
                LettersEliminated x = by(p, "x", "y");
                for (int n : new int[] {1, 2, 49, 50}) {
                    for (int what = 0; what <= 1; what++) {
                        due("x, " + n + " from " + z, drawn(n, z, p, what, true), x.lots(0, n, z, what));
                        due("y, " + n + " from " + z, drawn(n, z, p, what, false), x.lots(1, n, z, what));
                    }
                }
                due("0 times", -4, x.lots(0, 0, z, 0));
                due("51 times", -6, x.lots(0, 51, z, 0));
                due("the seed is not kept", drawn(50, z, p, 1, true), x.lots(0, 50, z, 1));
            }
        }
        says("how often a POLYNOMIAL is 0; its values together (not modulo p)");
        LettersEliminated x = by(31, "30", "0");
        due("50 times 30", 1500, x.lots(0, 50, 3, 1));
        due("never", 0, x.lots(0, 50, 3, 0));
        due("nothing together", 0, x.lots(1, 50, 3, 1));
        due("always", 50, x.lots(1, 50, 3, 0));
        due("once", 1, x.lots(1, 1, 3, 0));
        due("another what", -2, x.lots(0, 50, 3, 2));
        due("another what", -2, x.lots(0, 50, 3, -1));
    }

    // ---- undoing, the image

    private static void undoing() {
        says("the latest first, 16 at most (older ones no more)");
        for (int steps = 0; steps <= 18; steps++) {
            LettersEliminated x = by(31, "0");
            for (int n = 1; n <= steps; n++) {
                if (n % 3 == 0) {
                    x.turn(0, 0, n % 10);
                } else {
                    x.change(0, 1, 1, n);
                }
            }
            int can = Math.min(steps, 16);
            due("can be undone of " + steps, can, x.count(4));
            for (int n = steps; n > steps - can; n--) {
                due("undo of " + n, n - 1 - (steps - can), x.undo());
                due("told behind it", n == 1 ? 0 : (n - 1) % 3 == 0 ? n - 2 : n - 1, x.coefficient(0, 1, 1));
                due("figure behind it", (n - 1) / 3 * 3 % 10, x.of(0, 1));
            }
            due("no more of " + steps, -3, x.undo());
            due("refused once", 1, x.count(13));
        }
        LettersEliminated two = by(31, "0", "0");
        for (int n = 0; n < 19; n++) {
            two.change(n % 2, n % 5, n % 3, n + 1);
        }
        for (int n = 18; n >= 3; n--) {
            due("told by the step " + n, n + 1, two.coefficient(n % 2, n % 5, n % 3));
            due("undo of " + n, n - 3, two.undo());
            due("untold", 0, two.coefficient(n % 2, n % 5, n % 3));
        }
        due("the first three stay, of 0", 2, two.of(0, 4));
        due("the first three stay, of 1", 1, two.of(1, 4));
        LettersEliminated turned = of("x");
        for (int n = 0; n < 16; n++) {
            due("was", n == 0 ? 0 : 10 * ((n - 1) % 6) + (3 * n + 6) % 10, turned.turn(0, n % 6, (3 * n + 9) % 10));
        }
        for (int n = 15; n >= 0; n--) {
            due("undo of turn " + n, n, turned.undo());
            due("kind and figure ahead of it", n == 0 ? 0 : 10 * ((n - 1) % 6) + (3 * n + 6) % 10,
                10 * turned.of(0, 0) + turned.of(0, 1));
        }
        says("each that isn't refused counts, also if all stays as it was");
        LettersEliminated x = of("x", "y");
        x.change(0, 1, 0, 1);
        due("a change to what it was", 1, x.count(4));
        x.change(0, 1, 0, 8);
        due("a change to the same by 7", 2, x.count(4));
        x.turn(1, 0, 0);
        due("a turn to what it was", 3, x.count(4));
        x.change(0, 5, 0, 1);
        x.change(0, -1, 0, 1);
        x.change(2, 0, 0, 1);
        x.turn(2, 0, 0);
        x.turn(0, 6, 0);
        x.turn(0, 0, -1);
        x.turn(0, 0, 10);
        due("refused ones don't count", 3, x.count(4));
        due("undone", 2, x.undo());
        due("undone", 1, x.undo());
        due("undone", 0, x.undo());
        due("an undoing can't be undone", -3, x.undo());
        says("poly(), product(), drop(), prime(), ON leave none, where they are not refused (poly() not with a FAULT)");
        LettersEliminated six = of("x", "y", "x", "x", "x^4");
        six.change(0, 0, 0, 1);
        six.prime(9);
        due("prime() refused", 1, six.count(4));
        six.on();
        due("on() refused", 1, six.count(4));
        tell(six, "x+");
        due("poly() with a fault", 1, six.count(4));
        six.product(4, 2);
        due("product() refused", 1, six.count(4));
        tell(six, "3");
        due("poly()", 0, six.count(4));
        six.change(0, 0, 0, 2);
        tell(six, "3");
        due("poly() refused", 1, six.count(4));
        six.product(0, 0);
        due("product() refused", 1, six.count(4));
        six.drop();
        due("drop()", 0, six.count(4));
        six.change(0, 0, 0, 3);
        six.product(0, 0);
        due("product()", 0, six.count(4));
        six.change(0, 0, 0, 4);
        six.prime(7);
        due("prime() as it was", 0, six.count(4));
        six.change(0, 0, 0, 5);
        six.image();
        due("image() leaves them", 1, six.count(4));
        six.on();
        due("on()", 0, six.count(4));
        due("on() keeps what was changed ahead of image()", 5, six.coefficient(0, 0, 0));
        due("none", -3, six.undo());
    }

    private static void images() {
        says("ON from it: how many POLYNOMIALS. -3 there is no IMAGE");
        LettersEliminated x = new LettersEliminated();
        due("no image", -3, x.on());
        due("an image of none", 0, x.image());
        tell(x, "x");
        due("none again", 0, x.on());
        due("none there", -1, x.of(0, 0));
        for (int n = 0; n < 6; n++) {
            tell(x, "x^4+" + n);
        }
        due("an image of six", 6, x.image());
        for (int n = 0; n < 6; n++) {
            x.drop();
        }
        due("six again", 6, x.on());
        due("the sixth", 5, x.coefficient(5, 0, 0));
        due("no seventh", -6, tell(x, "x"));
        says("THE IMAGE: THE PRIME, POLYNOMIALS with all that is theirs; ON from it these are as then (letters, LISTS stay)");
        LettersEliminated y = by(31, "30x+y", "x^2");
        y.turn(1, 3, 9);
        y.list(0, 2);
        y.put(0, 0, 5);
        y.letter('x');
        due("two", 2, y.image());
        y.prime(2);
        y.turn(0, 2, 1);
        y.change(1, 0, 0, 1);
        y.put(0, 0, 6);
        y.list(1, 1);
        y.letter('y');
        y.count(77);
        y.of(9, 9);
        due("on", 2, y.on());
        due("the prime", 31, y.count(1));
        due("told", 30, y.coefficient(0, 1, 0));
        due("kind and figure", 39, 10 * y.of(1, 0) + y.of(1, 1));
        due("coefficients by it", mod(81, 31), y.coefficient(1, 0, 0));
        due("kind and figure", 0, 10 * y.of(0, 0) + y.of(0, 1));
        due("letters stay", 2, y.count(3));
        due("lists stay", 6, y.look(0, 0));
        due("lists stay", 0, y.look(1, 0));
        due("refusals stay", 1, y.count(11));
        y.change(0, 1, 0, 3);
        due("on again", 2, y.on());
        due("the image is as it was", 30, y.coefficient(0, 1, 0));
        y.change(0, 1, 0, 3);
        due("a later image", 2, y.image());
        y.prime(5);
        due("on", 2, y.on());
        due("from the later one", 3, y.coefficient(0, 1, 0));
        due("the letters become a polynomial still", 2, y.poly());
        due("xy", 11, y.term(2, 0, 0));
    }

    private static void refusals() {
        says("nothing changes but how many there were");
        LettersEliminated x = of("x", "0");
        for (int n = 1; n <= 20; n++) {
            x.of(2, 0);
            due("of -1", n, x.count(11));
        }
        for (int n = 1; n <= 20; n++) {
            x.of(0, 6);
            due("of -2", n, x.count(12));
            x.area(1);
            due("of -3", n, x.count(13));
            x.term(0, 0, -1);
            due("of -4", n, x.count(14));
            due("of -5, which no call answers", 0, x.count(15));
            x.value(0, 7, 0);
            due("of -6", n, x.count(16));
        }
        due("of -1", 20, x.count(11));
        says("Of longs 4000000000000000000 less them (-1 as 4000000000000000001; -11 likewise)");
        LettersEliminated longs = of("x");
        due("odds -1", 4000000000000000001L, longs.odds(1, 0));
        due("odds -2", 4000000000000000002L, longs.odds(0, 2));
        due("look -1", 4000000000000000001L, longs.look(3, 0));
        due("look -11", 4000000000000000011L, longs.look(0, 0));
        longs.list(0, 1);
        due("look -13", 4000000000000000013L, longs.look(0, 1));
        due("counted -1", 2, longs.count(11));
        due("counted -2", 1, longs.count(12));
        says("Not counted: of LISTS -11 it is missing, -13 no such place, -14 a size below 0");
        longs.put(1, 0, 0);
        longs.put(0, 1, 0);
        longs.list(0, -1);
        longs.lays(1, 0, 0, 0, 0, 0);
        longs.lays(0, 1, 0, 0, 0, 0);
        longs.judge(1, 0, 0, 0, 0);
        due("of all", 3, longs.count(11) + longs.count(12) + longs.count(13) + longs.count(14) + longs.count(15) + longs.count(16));
        says("-9 for another what");
        LettersEliminated y = of("x+y", "7");
        y.letter('x');
        y.change(0, 0, 0, 1);
        int[] want = {2, 7, 3, 1, 1, 2, -9, -9, -9, -9, -9, 0, 0, 0, 0, 0, 0, -9, -9};
        for (int what = 0; what < want.length; what++) {
            due("count(" + what + ")", want[what], y.count(what));
        }
        for (int what : new int[] {LEAST, -11, -1, 100, MOST}) {
            due("count(" + what + ")", -9, y.count(what));
        }
        due("it isn't counted", 0, y.count(11) + y.count(12) + y.count(13) + y.count(14) + y.count(15) + y.count(16));
        says("An object is used for at most 512 calls after it has been made");
        LettersEliminated last = new LettersEliminated();
        for (int n = 1; n <= 511; n++) {
            last.drop();
        }
        due("the 512th", 511, last.count(13));
    }

    // ---- the promises' own sentences

    private static void callsOfPolynomials() {
        says("THE PRIME 7, no POLYNOMIALS");
        LettersEliminated x = new LettersEliminated();
        int[] first = {0, 7, 0, 0, 0, 0};
        for (int what = 0; what <= 5; what++) {
            due("count(" + what + ")", first[what], x.count(what));
        }
        due("an empty text", -1000, x.poly());
        due("none to drop", -3, x.drop());
        due("none to undo", -3, x.undo());
        due("no image", -3, x.on());
        due("no lists", -11, x.put(0, 0, 0));
        says("A letter (0 .. 255) comes: how many there are. -4; -6 (255; 72, too)");
        due("0", 1, x.letter(0));
        due("255", 2, x.letter(255));
        due("-1", -4, x.letter(-1));
        due("256", -6, x.letter(256));
        for (int n = 3; n <= 72; n++) {
            due("letter " + n, n, x.letter(n));
        }
        due("a 73rd", -6, x.letter(0));
        due("72 there are", 72, x.count(3));
        due("a letter 0 is no end", -1000, x.poly());
        due("room again", 1, x.letter('x'));
        says("The letters become a POLYNOMIAL more, and are no more (with a FAULT neither)");
        due("x", 0, x.poly());
        due("no letters", 0, x.count(3));
        due("nothing", -1000, x.poly());
        tell(x, "y?");
        due("no letters after a fault", 0, x.count(3));
        due("a fault isn't counted", 0, x.count(11) + x.count(12) + x.count(15));
        due("a fault isn't counted", 3, x.count(13));
        says("-6 six there are (ahead of all; the letters stay)");
        LettersEliminated six = of("x", "x", "x", "x", "x", "x");
        due("with no letters", -6, six.poly());
        six.letter('+');
        due("with a fault", -6, six.poly());
        due("letters stay", 1, six.count(3));
        due("six there are", 6, six.count(0));
        six.drop();
        due("five: the fault", -1000, six.poly());
        due("five there are", 5, six.count(0));
        says("The last POLYNOMIAL is no more: how many there are. -3 there is none");
        for (int n = 4; n >= 0; n--) {
            due("drop", n, six.drop());
            due("the last is nobody", -1, six.of(n, 0));
        }
        due("none", -3, six.drop());
        due("none", 0, six.count(0));
        says("THE PRIME becomes n: what it was; all TOLD numbers are modulo n then");
        LettersEliminated y = by(31, "30+17x+16xy", "29y");
        y.turn(0, 4, 3);
        due("31", 31, y.prime(17));
        y.turn(0, 0, 0);
        due("30 by 17", 13, y.coefficient(0, 0, 0));
        due("17 by 17", 0, y.coefficient(0, 1, 0));
        due("16 by 17", 16, y.coefficient(0, 1, 1));
        due("29 by 17", 12, y.coefficient(1, 0, 1));
        due("17", 17, y.prime(31));
        due("they stay so", 13, y.coefficient(0, 0, 0));
        due("the same again", 31, y.prime(31));
        says("TOLD number of x^i y^j becomes v: what it was");
        due("told, whatever the kind", 0, y.turn(0, 2, 0));
        due("what it was", 13, y.change(0, 0, 0, LEAST));
        due("modulo p", mod(LEAST, 31), y.change(0, 0, 0, MOST));
        due("modulo p", mod(MOST, 31), y.change(0, 0, 0, -1));
        due("modulo p", 30, y.change(0, 0, 0, 31));
        due("modulo p", 0, y.change(0, 0, 0, 0));
        says("The value at x, y. -1; -4 either; -6 either (p less 1)");
        for (int p : PRIMES) {
            LettersEliminated v = by(p, "x^2-y");
            due("p less 1, p less 1", mod(2, p), v.value(0, p - 1, p - 1));
            due("p, 0", -6, v.value(0, p, 0));
            due("0, p", -6, v.value(0, 0, p));
            due("-1, p", -4, v.value(0, -1, p));
            due("p, -1", -4, v.value(0, p, -1));
        }
    }

    private static void callsOfResults() {
        says("RESULT AT v. .. -4; -6 (p less 1)");
        for (int p : PRIMES) {
            LettersEliminated x = by(p, "x-y", "x+1");
            // RESULT of table 0: 1 + y
            due("at p less 1", 0, x.at(0, 1, 0, 0, p - 1));
            due("at 0", 1, x.at(0, 1, 0, 0, 0));
            due("at p", -6, x.at(0, 1, 0, 0, p));
            due("at -1", -4, x.at(0, 1, 0, 0, -1));
            due("common at p less 1", 1, x.common(0, 1, 0, p - 1));
            due("common at 0", 0, x.common(0, 1, 0, 0));
            due("common at p", -6, x.common(0, 1, 0, p));
            due("common at -1", -4, x.common(0, 1, 0, -1));
            due("norm at p less 1", 0, x.norm(0, 1, 0, p - 1));
            due("norm at 0", 1, x.norm(0, 1, 0, 0));
            due("norm at p", -6, x.norm(0, 1, 0, p));
            due("norm at -1", -4, x.norm(0, 1, 0, -1));
            due("remainders at p less 1", 2, x.remainder(0, 1, 0, p - 1, -1));
            due("remainders at 0", 3, x.remainder(0, 1, 0, 0, -1));
            due("remainders at p", -6, x.remainder(0, 1, 0, p, -1));
            due("remainders at -1", -4, x.remainder(0, 1, 0, -1, -1));
            due("remainder -2", -4, x.remainder(0, 1, 0, 0, -2));
            due("remainder -2 at p", -4, x.remainder(0, 1, 0, p, -2));
        }
        says("-3 one is NOUGHT");
        LettersEliminated x = of("x+y", "0");
        for (int who = 0; who <= 2; who++) {
            int one = who == 0 ? 0 : 1;
            int other = who == 1 ? 0 : 1;
            due("rows", -3, x.rows(one, other, 0, 0));
            due("entry", -3, x.entry(one, other, 0, 0, 0, 0, 0));
            due("result", -3, x.result(one, other, 0, 0, 0));
            due("degree", -3, x.degree(one, other, 0, 0));
            due("at", -3, x.at(one, other, 0, 0, 0));
            due("remainder", -3, x.remainder(one, other, 0, 0, 0));
            due("common", -3, x.common(one, other, 0, 0));
            due("norm", -3, x.norm(one, other, 0, 0));
            due("extra", -3, x.extra(one, other, 0));
            due("zeros", -3, x.zeros(one, other, 0));
            due("sum", -3, x.sum(one, other, 0));
            due("mixed", -3, x.mixed(one, other));
            due("lifted isn't refused", 1, x.lifted(one, other, 0) > 0 ? 1 : 0);
            due("root isn't refused", 1, x.root(one, other, -1) > 0 ? 1 : 0);
            due("without isn't refused", 1, x.without(one, other) > 0 ? 1 : 0);
        }
        says("COMMON ROOTS: how many (k -1), the k-th: 100 times x, plus y (-9 there are not so many). .. -4 below -1");
        LettersEliminated roots = by(31, "x-30", "y-29", "0");
        due("how many", 1, roots.root(0, 1, -1));
        due("100 times x, plus y", 3029, roots.root(0, 1, 0));
        due("not so many", -9, roots.root(0, 1, 1));
        due("far", -9, roots.root(0, 1, MOST));
        due("-2", -4, roots.root(0, 1, -2));
        due("far below", -4, roots.root(0, 1, LEAST));
    }

    private static void callsOfPolygons() {
        says("The k-th CORNER (from 0) .. -1; -3 NOUGHT; -4");
        LettersEliminated x = of("x+y", "0");
        due("the first", 1, x.corner(0, 0));
        due("the last", 10, x.corner(0, 1));
        due("no more", -9, x.corner(0, 2));
        due("below", -4, x.corner(0, -1));
        due("nought", -3, x.corner(1, 0));
        due("nought, ahead of below", -3, x.corner(1, -1));
        due("nobody, ahead of below", -1, x.corner(2, -1));
        due("area of nought", -3, x.area(1));
        due("area of nobody", -1, x.area(2));
        says("SUM of two: the k-th CORNER .. (k -1: its AREA) .. -4 below -1");
        due("the area", 0, x.sum(0, 0, -1));
        due("the first", 2, x.sum(0, 0, 0));
        due("below", -4, x.sum(0, 0, -2));
        says("ODDS: part 0 above, 1 below the line");
        due("above", 1, x.odds(0, 0));
        due("below", 7, x.odds(0, 1));
        due("part 2", LONG + 2, x.odds(0, 2));
        due("part -1", LONG + 2, x.odds(0, -1));
    }

    private static void callsOfLists() {
        says("RESULT of a TABLE is laid into a LIST, from power 0 and place i on, as many as have a place: how many");
        // RESULT: (y^8 - 1)^4 by 31
        LettersEliminated great = by(31, "x^4y^4+1", "x^4+y^4");
        int[] choose = {1, 27, 6, 27, 1};
        for (int size : new int[] {1, 2, 33, 40}) {
            for (int i : new int[] {0, 1, size - 1}) {
                great.list(0, size);
                if (i >= size) {
                    continue;
                }
                for (int place = 0; place < 2 && place < size; place++) {
                    great.put(0, place, 99);
                }
                due("laid from " + i + " of " + size, size - i, great.lays(0, i, 0, 1, 0, 0));
                for (int place : new int[] {0, 1, 8, 32, 33, 39}) {
                    int k = place - i;
                    long want = place >= size ? LONG + 13
                        : k < 0 ? (place < 2 ? 99 : 0)
                        : k % 8 == 0 && k <= 32 ? choose[k / 8] : 0;
                    due("place " + place + " of " + size + " from " + i, want, great.look(0, place));
                }
            }
        }
        says("-13 no such place (with the size of the LIST, too)");
        for (int size : new int[] {0, 1, 39, 40}) {
            great.list(0, size);
            due("from its size on", -13, great.lays(0, size, 0, 1, 0, 0));
            due("from -1 on", -13, great.lays(0, -1, 0, 1, 0, 0));
            due("from far on", -13, great.lays(0, MOST, 0, 1, 0, 0));
            due("from far below on", -13, great.lays(0, LEAST, 0, 1, 0, 0));
            if (size > 0) {
                due("from its last place on", 1, great.lays(0, size - 1, 0, 1, 0, 0));
                due("power 0", 1, great.look(0, size - 1));
            }
        }
        due("none of it counted", 0, great.count(11) + great.count(12) + great.count(13) + great.count(14) + great.count(16));
        says("Place i of a LIST becomes v: 1. -1; -11; -13");
        LettersEliminated x = new LettersEliminated();
        x.list(2, 3);
        for (int i = -1; i <= 3; i++) {
            boolean there = i >= 0 && i < 3;
            due("put at " + i, there ? 1 : -13, x.put(2, i, 100 + i));
            due("look at " + i, there ? 100 + i : LONG + 13, x.look(2, i));
        }
        due("put -1", -1, x.put(-1, 0, 0));
        due("put 3", -1, x.put(3, 0, 0));
        due("look -1", LONG + 1, x.look(-1, 0));
        due("look 3", LONG + 1, x.look(3, 0));
        due("an int below 0", 1, x.put(2, 0, LEAST));
        due("an int below 0, as a long", LEAST, x.look(2, 0));
        due("the greatest int", 1, x.put(2, 0, MOST));
        due("the greatest int, as a long", MOST, x.look(2, 0));
    }
}
