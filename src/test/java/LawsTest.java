import java.util.Random;

/**
 * Laws that bind calls to one another whatever the polynomials are: they hold by mathematics, not by a second
 * reading of the document, so that a reading shared by the class and by Model is tried by them, too.
 */
public final class LawsTest {
    private static final int ROUNDS = 1200;
    private static final int[] PRIMES = {2, 3, 5, 7, 11, 13, 17, 19, 23, 29, 31};
    private static final int WIDTH = 41;
    /** With three calls a root an object stays below 512 calls. */
    private static final int MOST_ROOTS = 120;
    private static final int ONE = 0;
    private static final int OTHER = 1;
    private static int wrong;
    private static int held;

    private final Random random;
    private final LettersEliminated x = new LettersEliminated();
    private final int p;
    private final String seed;

    private LawsTest(int round) {
        random = new Random(round);
        seed = "round " + round + ": ";
        p = PRIMES[random.nextInt(PRIMES.length)];
        x.prime(p);
    }

    public static void main(String[] args) {
        for (int round = 0; round < ROUNDS; round++) {
            tryRound(round);
        }
        System.out.println(wrong == 0 ? "laws held " + held + " times" : "laws did not hold " + wrong + " times");
        if (wrong != 0) {
            System.exit(1);
        }
    }

    /** Each group has an object of its own, as nothing is promised of one after its 512th call. */
    private static void tryRound(int round) {
        new LawsTest(round).tables();
        new LawsTest(round).numbers();
        new LawsTest(round).rootsFound();
        new LawsTest(round).polygons();
        new LawsTest(round).products();
        new LawsTest(round).resultsOfProducts();
        new LawsTest(round).kinds();
    }

    private void same(String law, long one, long other) {
        held++;
        if (one != other) {
            wrong++;
            System.out.println(seed + law + ": " + one + " is not " + other);
        }
    }

    private void holds(String law, boolean does) {
        same(law, does ? 1 : 0, 1);
    }

    /** A polynomial with powers up to what is told, some of its numbers 0. */
    private int any(int mostX, int mostY) {
        x.letter('0');
        int made = x.poly();
        int thin = random.nextInt(4);
        for (int i = 0; i <= mostX; i++) {
            for (int j = 0; j <= mostY; j++) {
                if (random.nextInt(4) >= thin) {
                    x.change(made, i, j, random.nextInt(p));
                }
            }
        }
        if (x.of(made, 4) == 0) {
            x.change(made, random.nextInt(mostX + 1), random.nextInt(mostY + 1), 1);
        }
        return made;
    }

    private int[] resultOf(int one, int other, int letter, int table) {
        int[] row = new int[WIDTH];
        for (int k = 0; k < WIDTH; k++) {
            row[k] = x.result(one, other, letter, table, k);
        }
        return row;
    }

    private int[] times(int[] one, int[] other) {
        int[] row = new int[WIDTH];
        for (int a = 0; a < WIDTH; a++) {
            for (int b = 0; b < WIDTH; b++) {
                if (a + b < WIDTH) {
                    row[a + b] = (row[a + b] + one[a] * other[b]) % p;
                } else if (one[a] * other[b] != 0) {
                    holds("no power above 40", false);
                }
            }
        }
        return row;
    }

    private int[] scaled(int[] one, int number) {
        int[] row = new int[WIDTH];
        for (int k = 0; k < WIDTH; k++) {
            row[k] = Math.floorMod(one[k] * number, p);
        }
        return row;
    }

    private void sameRows(String law, int[] one, int[] other) {
        for (int k = 0; k < WIDTH; k++) {
            if (one[k] != other[k]) {
                same(law + ", power " + k, one[k], other[k]);
                return;
            }
        }
        held++;
    }

    private static int sign(int exponent) {
        return exponent % 2 == 0 ? 1 : -1;
    }

    private int power(int number, int exponent) {
        int power = 1;
        for (int k = 0; k < exponent; k++) {
            power = power * number % p;
        }
        return power;
    }

    /** What stands with the greatest power of the letter. */
    private int[] leading(int poly, int letter) {
        int[] row = new int[WIDTH];
        int m = x.of(poly, 2 + letter);
        for (int b = 0; b < 5; b++) {
            row[b] = letter == 0 ? x.coefficient(poly, m, b) : x.coefficient(poly, b, m);
        }
        return row;
    }

    private int valueOf(int[] row, int v) {
        int value = 0;
        for (int k = WIDTH - 1; k >= 0; k--) {
            value = (value * v + row[k]) % p;
        }
        return value;
    }

    // ---- two polynomials

    /** Makes ONE, of any kind, and OTHER, neither of them nought; answers the letter that is to go. */
    private int makePair() {
        any(random.nextInt(5), random.nextInt(5));
        any(random.nextInt(5), random.nextInt(5));
        x.turn(ONE, random.nextInt(6), random.nextInt(10));
        if (x.of(ONE, 4) == 0) {
            x.turn(ONE, 0, 0);
        }
        return random.nextInt(2);
    }

    /** Bezout's determinant is Sylvester's, times the leading part of the greater degree as often as degrees differ. */
    private void tables() {
        int letter = makePair();
        int m = x.of(ONE, 2 + letter);
        int n = x.of(OTHER, 2 + letter);
        int[] sylvester = resultOf(ONE, OTHER, letter, 0);
        int[] bezout = resultOf(ONE, OTHER, letter, 1);
        int[] due = sylvester;
        for (int k = n; k < m; k++) {
            due = times(due, leading(ONE, letter));
        }
        for (int k = m; k < n; k++) {
            due = times(due, leading(OTHER, letter));
        }
        int most = Math.max(m, n);
        int swaps = most * (most - 1) / 2 + (n > m ? most * (n - m) : 0);
        sameRows("Bezout from Sylvester", bezout, scaled(due, sign(swaps)));
        sameRows("Sylvester the other way", resultOf(OTHER, ONE, letter, 0), scaled(sylvester, sign(m * n)));
        sameRows("Bezout the other way", resultOf(OTHER, ONE, letter, 1), scaled(bezout, sign(most)));
        same("extra the other way", x.extra(ONE, OTHER, letter), x.extra(OTHER, ONE, letter));
        same("rows of Sylvester", x.rows(ONE, OTHER, letter, 0), m + n);
        same("rows of Bezout", x.rows(ONE, OTHER, letter, 1), most);
        for (int r = 0; r < most; r++) {
            for (int c = 0; c < r; c++) {
                same("Bezout's table is alike both ways", x.entry(ONE, OTHER, letter, 1, r, c, r),
                    x.entry(ONE, OTHER, letter, 1, c, r, r));
            }
        }
        x.list(0, 40);
        same("all is laid", x.lays(0, 0, ONE, OTHER, letter, 0), 40);
        same("what was laid is judged right", x.judge(0, ONE, OTHER, letter, 0), -9);
    }

    /** With the other letter a number: the norm, the remainders and the result tell of one another. */
    private void numbers() {
        int letter = makePair();
        int m = x.of(ONE, 2 + letter);
        int n = x.of(OTHER, 2 + letter);
        int[] leadingOne = leading(ONE, letter);
        int[] leadingOther = leading(OTHER, letter);
        int zeros = x.zeros(ONE, OTHER, letter);
        for (int v = 0; v < p; v++) {
            int at = x.at(ONE, OTHER, letter, 0, v);
            int leadOne = valueOf(leadingOne, v);
            int leadOther = valueOf(leadingOther, v);
            int common = x.common(ONE, OTHER, letter, v);
            same("zeros and at", zeros >> v & 1, at == 0 ? 1 : 0);
            if (leadOne != 0) {
                same("result from norm", at, power(leadOne, n) * x.norm(ONE, OTHER, letter, v) % p);
            }
            if (leadOne != 0 || leadOther != 0) {
                holds("0 with a common divisor alone", at == 0 == common > 0);
            } else {
                same("0 where both leading parts are", at, m + n == 0 ? 1 : 0);
            }
            int links = x.remainder(ONE, OTHER, letter, v, -1);
            same("the last of the remainders", links == 0 ? -9 : x.remainder(ONE, OTHER, letter, v, links - 1), common);
            same("common the other way", x.common(OTHER, ONE, letter, v), common);
        }
    }

    private void rootsFound() {
        makePair();
        int found = x.root(ONE, OTHER, -1);
        if (found > MOST_ROOTS) {
            return;
        }
        int without = 0;
        int[] lifted = {0, 0};
        int before = -1;
        for (int k = 0; k < found; k++) {
            int root = x.root(ONE, OTHER, k);
            holds("roots go up", root > before);
            same("one is 0 there", x.value(ONE, root / 100, root % 100), 0);
            same("other is 0 there", x.value(OTHER, root / 100, root % 100), 0);
            lifted[1] |= 1 << root / 100;
            lifted[0] |= 1 << root % 100;
            without += root / 100 != 0 && root % 100 != 0 ? 1 : 0;
            before = root;
        }
        same("no root more", x.root(ONE, OTHER, found), -9);
        same("without noughts", x.without(ONE, OTHER), without);
        for (int letter = 0; letter < 2; letter++) {
            same("lifted", x.lifted(ONE, OTHER, letter), lifted[letter]);
            if (x.rows(ONE, OTHER, letter, 0) > 0) {
                same("what is lifted makes it nought", lifted[letter] & ~x.zeros(ONE, OTHER, letter), 0);
            }
        }
        same("odds", x.odds(ONE, 0) * p * p, x.odds(ONE, 1) * x.root(ONE, ONE, -1));
    }

    private void polygons() {
        makePair();
        int mixed = x.mixed(ONE, OTHER);
        same("area of the sum", x.sum(ONE, OTHER, -1), x.area(ONE) + x.area(OTHER) + 2 * mixed);
        same("mixed the other way", x.mixed(OTHER, ONE), mixed);
        same("mixed with itself", x.mixed(ONE, ONE), x.area(ONE));
        holds("Minkowski", mixed * mixed >= x.area(ONE) * x.area(OTHER));
        same("twice as wide", x.sum(ONE, ONE, -1), 4 * x.area(ONE));
        for (int k = 0; k < 12; k++) {
            int corner = x.corner(ONE, k);
            same("corners twice as far", x.sum(ONE, ONE, k), corner < 0 ? corner : 2 * corner);
        }
    }

    // ---- products

    /** The polynomials 0, 1, 2, and 3: the product of 0 and 1. */
    private void makeProduct() {
        any(random.nextInt(3), random.nextInt(3));
        any(random.nextInt(3), random.nextInt(3));
        any(random.nextInt(5), random.nextInt(5));
        same("the product's number", x.product(0, 1), 3);
    }

    private void products() {
        makeProduct();
        for (int a = 0; a < p; a += 1 + p / 5) {
            for (int b = 0; b < p; b += 1 + p / 5) {
                same("value of a product", x.value(3, a, b), x.value(0, a, b) * x.value(1, a, b) % p);
            }
        }
        for (int k = 0; k < 12; k++) {
            same("the polygon of a product is the sum", x.corner(3, k), x.sum(0, 1, k));
        }
        same("area of a product", x.area(3), x.sum(0, 1, -1));
        same("mixed adds up", x.mixed(3, 2), x.mixed(0, 2) + x.mixed(1, 2));
        for (int order = 0; order < 2; order++) {
            same("the first term of a product", x.term(3, order, 0), x.term(0, order, 0) + x.term(1, order, 0));
        }
    }

    private void resultsOfProducts() {
        makeProduct();
        for (int letter = 0; letter < 2; letter++) {
            sameRows("the result of a product", resultOf(3, 2, letter, 0),
                times(resultOf(0, 2, letter, 0), resultOf(1, 2, letter, 0)));
            if (x.of(0, 2 + letter) > 0) {
                same("a divisor and the product", x.degree(0, 3, letter, 0), -9);
            }
            int[] lead = leading(0, letter);
            int degree = 4;
            while (degree > 0 && lead[degree] == 0) {
                degree--;
            }
            same("extra of a divisor and the product", x.extra(0, 3, letter), degree);
            same("extra of the product and a divisor", x.extra(3, 0, letter), degree);
        }
    }

    // ---- kinds

    private void kinds() {
        int plain = any(4, 4);
        int turned = any(0, 0);
        for (int n = 0; n < 25; n++) {
            x.change(turned, n / 5, n % 5, x.coefficient(plain, n / 5, n % 5));
        }
        int figure = random.nextInt(10);
        int u = random.nextInt(p);
        int v = random.nextInt(p);
        x.turn(turned, 1, figure);
        int evened = x.value(plain, u, v) + x.value(plain, (p - u) % p, v);
        same("even is half of both sides", 2 * x.value(turned, u, v) % p, evened % p);
        x.turn(turned, 2, figure);
        same("swapped", x.value(turned, u, v), x.value(plain, v, u));
        if (x.of(plain, 4) > 0) {
            int third = any(2, 2);
            int swappedThird = any(0, 0);
            for (int n = 0; n < 25; n++) {
                x.change(swappedThird, n / 5, n % 5, x.coefficient(third, n % 5, n / 5));
            }
            sameRows("swapped letters swap what is gone", resultOf(turned, swappedThird, 1, 1),
                resultOf(plain, third, 0, 1));
        }
        x.turn(turned, 3, figure);
        same("shifted", x.value(turned, u, v), x.value(plain, (u + figure) % p, v));
        same("shifted odds", x.odds(turned, 0), x.odds(plain, 0));
        x.turn(turned, 5, figure);
        same("twisted", x.value(turned, u, v), x.value(plain, figure * v % p, u));
        x.turn(turned, 4, figure);
        for (int j = 0; j < 5; j++) {
            same("derived of x^2", x.coefficient(turned, 1, j), 2 * x.coefficient(plain, 2, j) % p);
            same("derived of x^4", x.coefficient(turned, 3, j), 4 * x.coefficient(plain, 4, j) % p);
            same("nothing else is derived", x.coefficient(turned, 0, j) + x.coefficient(turned, 2, j)
                + x.coefficient(turned, 4, j), 0);
        }
    }
}
