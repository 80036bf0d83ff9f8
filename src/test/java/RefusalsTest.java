import java.util.Arrays;

/**
 * For each call that can be refused, all ways to put values at and beyond the document's bounds together: the answer is
 * the first refusal that fits in the order in which the promise tells them, how many there were of it grows by one
 * (of -11, -13, -14 not), and nothing else changes: not the polynomials, what can be undone, the image, the lists,
 * the letters. A choice that no refusal fits is taken.
 */
public final class RefusalsTest {
    private static final int LEAST = Integer.MIN_VALUE;
    private static final int MOST = Integer.MAX_VALUE;
    private static final long LONG = 4000000000000000000L;
    private static final int FIRST_UNCOUNTED = -11;

    /** A call with its arguments in a row. */
    private interface Call {
        long answer(LettersEliminated x, int[] a);
    }

    /** The refusal that is due for the arguments; 0 if there is none. */
    private interface Due {
        int refusal(int[] a);
    }

    /** What is there before the call. */
    private interface Scene {
        LettersEliminated make();
    }

    // Polynomials 0, 1 are ordinary, 2 is NOUGHT, 3 is nobody. List 0 has 3 places, 1 has none, 2 is missing.
    private static final int[] WHO = {-1, 0, 1, 2, 3};
    private static final int[] LETTER = {-1, 0, 1, 2};
    private static final int[] TABLE = {-1, 0, 1, 2};
    private static final int[] NUMBER = {-1, 0, 6, 7};
    private static final int[] POWER = {-1, 0, 4, 5};
    private static final int[] PLACE = {-1, 0, 2, 3};
    private static final int[] LIST = {-1, 0, 1, 2, 3};

    private static int wrong;
    private static int tried;
    private static int refused;

    public static void main(String[] args) {
        lettersAndPolynomials();
        state();
        tables();
        atNumbers();
        pairs();
        polygons();
        oddsAndLots();
        lists();
        System.out.println(wrong == 0
            ? tried + " choices of arguments, " + refused + " of them refused, are as due"
            : wrong + " choices of arguments are not as due");
        if (wrong != 0) {
            System.exit(1);
        }
    }

    // ---- promises 2 .. 11

    private static void lettersAndPolynomials() {
        Scene ordinary = RefusalsTest::ordinary;
        int[][] letter = {{LEAST, -1, 0, 255, 256, MOST}};
        all("letter", ordinary, letter, (x, a) -> x.letter(a[0]), a -> a[0] < 0 ? -4 : a[0] > 255 ? -6 : 0);
        all("letter with 71 there", RefusalsTest::oneLetterLeft, letter, (x, a) -> x.letter(a[0]),
            a -> a[0] < 0 ? -4 : a[0] > 255 ? -6 : 0);
        all("letter with 72 there", RefusalsTest::noLetterLeft, letter, (x, a) -> x.letter(a[0]), a -> a[0] < 0 ? -4 : -6);
        all("turn", ordinary, new int[][] {WHO, {LEAST, -1, 0, 5, 6, MOST}, {LEAST, -1, 0, 9, 10, MOST}},
            (x, a) -> x.turn(a[0], a[1], a[2]),
            a -> nobody(a[0]) ? -1 : a[1] < 0 || a[1] > 5 ? -2 : a[2] < 0 ? -4 : a[2] > 9 ? -6 : 0);
        all("change", ordinary, new int[][] {WHO, POWER, POWER, {LEAST, -1, 0, 7, MOST}},
            (x, a) -> x.change(a[0], a[1], a[2], a[3]), a -> powers(a[0], a[1], a[2]));
        all("coefficient", ordinary, new int[][] {WHO, POWER, POWER},
            (x, a) -> x.coefficient(a[0], a[1], a[2]), a -> powers(a[0], a[1], a[2]));
        all("of", ordinary, new int[][] {WHO, {-1, 0, 1, 2, 3, 4, 5, 6}},
            (x, a) -> x.of(a[0], a[1]), a -> nobody(a[0]) ? -1 : a[1] < 0 || a[1] > 5 ? -2 : 0);
        all("term", ordinary, new int[][] {WHO, {-1, 0, 1, 2}, {LEAST, -1, 0, 24, 25, MOST}},
            (x, a) -> x.term(a[0], a[1], a[2]),
            a -> nobody(a[0]) ? -1 : a[1] < 0 || a[1] > 1 ? -2 : a[2] < 0 ? -4 : 0);
        all("value", ordinary, new int[][] {WHO, NUMBER, NUMBER}, (x, a) -> x.value(a[0], a[1], a[2]),
            a -> nobody(a[0]) ? -1 : a[1] < 0 || a[2] < 0 ? -4 : a[1] > 6 || a[2] > 6 ? -6 : 0);
    }

    private static void state() {
        int[][] nothing = {};
        int[][] numbers = {new int[45]};
        for (int n = 0; n < 45; n++) {
            numbers[0][n] = n < 42 ? n - 2 : n == 42 ? LEAST : n == 43 ? MOST : -7;
        }
        all("prime", RefusalsTest::ordinary, numbers, (x, a) -> x.prime(a[0]), a -> isPrime(a[0]) ? 0 : -3);
        all("poly with six there", RefusalsTest::six, nothing, (x, a) -> x.poly(), a -> -6);
        all("poly with six there and a fault", RefusalsTest::sixAndFault, nothing, (x, a) -> x.poly(), a -> -6);
        all("poly with five there", RefusalsTest::five, nothing, (x, a) -> x.poly(), a -> 0);
        all("poly with a fault", RefusalsTest::fiveAndFault, nothing, (x, a) -> x.poly(), a -> 0);
        all("drop with none there", LettersEliminated::new, nothing, (x, a) -> x.drop(), a -> -3);
        all("drop", RefusalsTest::ordinary, nothing, (x, a) -> x.drop(), a -> 0);
        all("undo with none there", LettersEliminated::new, nothing, (x, a) -> x.undo(), a -> -3);
        all("undo", RefusalsTest::ordinary, nothing, (x, a) -> x.undo(), a -> 0);
        all("on without an image", RefusalsTest::five, nothing, (x, a) -> x.on(), a -> -3);
        all("on", RefusalsTest::ordinary, nothing, (x, a) -> x.on(), a -> 0);
        all("count", RefusalsTest::ordinary, numbers, (x, a) -> x.count(a[0]), a -> 0);
        all("image", RefusalsTest::ordinary, nothing, (x, a) -> x.image(), a -> 0);
        all("product", RefusalsTest::forProducts, new int[][] {WHO, WHO}, (x, a) -> x.product(a[0], a[1]),
            a -> nobody(a[0]) || nobody(a[1]) ? -1 : a[0] < 2 && a[1] < 2 && a[0] + a[1] > 0 ? -3 : 0);
        all("product with six there", RefusalsTest::six, new int[][] {{-1, 0, 5, 6}, {-1, 0, 5, 6}},
            (x, a) -> x.product(a[0], a[1]), a -> a[0] < 0 || a[0] > 5 || a[1] < 0 || a[1] > 5 ? -1 : -6);
    }

    // ---- promises 12 .. 24

    private static void tables() {
        Scene ordinary = RefusalsTest::ordinary;
        all("rows", ordinary, new int[][] {WHO, WHO, LETTER, TABLE},
            (x, a) -> x.rows(a[0], a[1], a[2], a[3]), a -> table(a[0], a[1], a[2], a[3]));
        all("degree", ordinary, new int[][] {WHO, WHO, LETTER, TABLE},
            (x, a) -> x.degree(a[0], a[1], a[2], a[3]), a -> table(a[0], a[1], a[2], a[3]));
        all("entry", ordinary, new int[][] {WHO, WHO, LETTER, TABLE, {-1, 0, 1, 3, 4}, {-1, 0, 2, 3}, {-1, 0, 8, 9}},
            (x, a) -> x.entry(a[0], a[1], a[2], a[3], a[4], a[5], a[6]), RefusalsTest::entryDue);
        all("result", ordinary, new int[][] {WHO, WHO, LETTER, TABLE, {LEAST, -1, 0, 40, 41, MOST}},
            (x, a) -> x.result(a[0], a[1], a[2], a[3], a[4]),
            a -> first(table(a[0], a[1], a[2], a[3]), a[4] < 0 ? -4 : a[4] > 40 ? -6 : 0));
        all("at", ordinary, new int[][] {WHO, WHO, LETTER, TABLE, NUMBER},
            (x, a) -> x.at(a[0], a[1], a[2], a[3], a[4]), a -> first(table(a[0], a[1], a[2], a[3]), number(a[4])));
    }

    private static void atNumbers() {
        Scene ordinary = RefusalsTest::ordinary;
        all("remainder", ordinary, new int[][] {WHO, WHO, LETTER, NUMBER, {LEAST, -2, -1, 0, MOST}},
            (x, a) -> x.remainder(a[0], a[1], a[2], a[3], a[4]),
            a -> first(table(a[0], a[1], a[2], 0), a[3] < 0 || a[4] < -1 ? -4 : a[3] > 6 ? -6 : 0));
        all("common", ordinary, new int[][] {WHO, WHO, LETTER, NUMBER},
            (x, a) -> x.common(a[0], a[1], a[2], a[3]), a -> first(table(a[0], a[1], a[2], 0), number(a[3])));
        all("norm", ordinary, new int[][] {WHO, WHO, LETTER, NUMBER},
            (x, a) -> x.norm(a[0], a[1], a[2], a[3]), a -> first(table(a[0], a[1], a[2], 0), number(a[3])));
    }

    private static void pairs() {
        Scene ordinary = RefusalsTest::ordinary;
        int[][] withLetter = {WHO, WHO, {LEAST, -1, 0, 1, 2, MOST}};
        all("extra", ordinary, withLetter, (x, a) -> x.extra(a[0], a[1], a[2]), a -> table(a[0], a[1], a[2], 0));
        all("zeros", ordinary, withLetter, (x, a) -> x.zeros(a[0], a[1], a[2]), a -> table(a[0], a[1], a[2], 0));
        all("lifted", ordinary, withLetter, (x, a) -> x.lifted(a[0], a[1], a[2]),
            a -> nobody(a[0]) || nobody(a[1]) || a[2] < 0 || a[2] > 1 ? -1 : 0);
        all("root", ordinary, new int[][] {WHO, WHO, {LEAST, -2, -1, 0, 48, 49, MOST}}, (x, a) -> x.root(a[0], a[1], a[2]),
            a -> nobody(a[0]) || nobody(a[1]) ? -1 : a[2] < -1 ? -4 : 0);
        all("without", ordinary, new int[][] {WHO, WHO}, (x, a) -> x.without(a[0], a[1]),
            a -> nobody(a[0]) || nobody(a[1]) ? -1 : 0);
    }

    // ---- promises 25 .. 31

    private static void polygons() {
        Scene ordinary = RefusalsTest::ordinary;
        all("corner", ordinary, new int[][] {WHO, {LEAST, -1, 0, 3, MOST}}, (x, a) -> x.corner(a[0], a[1]),
            a -> first(polygon(a[0], a[0]), a[1] < 0 ? -4 : 0));
        all("area", ordinary, new int[][] {{LEAST, -1, 0, 1, 2, 3, MOST}}, (x, a) -> x.area(a[0]), a -> polygon(a[0], a[0]));
        all("sum", ordinary, new int[][] {WHO, WHO, {LEAST, -2, -1, 0, MOST}}, (x, a) -> x.sum(a[0], a[1], a[2]),
            a -> first(polygon(a[0], a[1]), a[2] < -1 ? -4 : 0));
        all("mixed", ordinary, new int[][] {WHO, WHO}, (x, a) -> x.mixed(a[0], a[1]), a -> polygon(a[0], a[1]));
    }

    private static void oddsAndLots() {
        Scene ordinary = RefusalsTest::ordinary;
        allLong("odds", ordinary, new int[][] {WHO, {LEAST, -1, 0, 1, 2, MOST}}, (x, a) -> x.odds(a[0], a[1]),
            a -> nobody(a[0]) ? -1 : a[1] < 0 || a[1] > 1 ? -2 : 0);
        all("lots", ordinary, new int[][] {WHO, {LEAST, 0, 1, 50, 51, MOST}, {LEAST, 0, MOST}, {-1, 0, 1, 2}},
            (x, a) -> x.lots(a[0], a[1], a[2], a[3]),
            a -> nobody(a[0]) ? -1 : a[1] < 1 ? -4 : a[1] > 50 ? -6 : a[3] < 0 || a[3] > 1 ? -2 : 0);
    }

    // ---- promises 32 .. 36

    private static void lists() {
        Scene ordinary = RefusalsTest::ordinary;
        all("list", ordinary, new int[][] {LIST, {LEAST, -1, 0, 40, 41, MOST}}, (x, a) -> x.list(a[0], a[1]),
            a -> noList(a[0]) ? -1 : a[1] > 40 ? -6 : a[1] < 0 ? -14 : 0);
        all("put", ordinary, new int[][] {LIST, PLACE, {LEAST, 0, MOST}}, (x, a) -> x.put(a[0], a[1], a[2]),
            a -> noList(a[0]) ? -1 : place(a[0], a[1]));
        allLong("look", ordinary, new int[][] {LIST, {LEAST, -1, 0, 2, 3, MOST}}, (x, a) -> x.look(a[0], a[1]),
            a -> noList(a[0]) ? -1 : place(a[0], a[1]));
        all("lays", ordinary, new int[][] {LIST, PLACE, WHO, WHO, LETTER, TABLE},
            (x, a) -> x.lays(a[0], a[1], a[2], a[3], a[4], a[5]),
            a -> noList(a[0]) ? -1 : first(table(a[2], a[3], a[4], a[5]), place(a[0], a[1])));
        all("judge", ordinary, new int[][] {LIST, WHO, WHO, LETTER, TABLE},
            (x, a) -> x.judge(a[0], a[1], a[2], a[3], a[4]),
            a -> noList(a[0]) ? -1 : first(table(a[1], a[2], a[3], a[4]), a[0] == 2 ? -11 : 0));
    }

    // ---- what the document asks of the arguments

    private static int first(int one, int next) {
        return one != 0 ? one : next;
    }

    private static boolean nobody(int poly) {
        return poly < 0 || poly > 2;
    }

    private static int powers(int poly, int i, int j) {
        return nobody(poly) ? -1 : i < 0 || j < 0 ? -4 : i > 4 || j > 4 ? -6 : 0;
    }

    private static int polygon(int one, int other) {
        return nobody(one) || nobody(other) ? -1 : one == 2 || other == 2 ? -3 : 0;
    }

    private static int table(int one, int other, int letter, int table) {
        if (nobody(one) || nobody(other) || letter < 0 || letter > 1) {
            return -1;
        }
        return table < 0 || table > 1 ? -2 : one == 2 || other == 2 ? -3 : 0;
    }

    private static int number(int v) {
        return v < 0 ? -4 : v > 6 ? -6 : 0;
    }

    /** Polynomial 0 has degree 2 in each letter, 1 has degree 1. */
    private static int entryDue(int[] a) {
        int refusal = table(a[0], a[1], a[2], a[3]);
        if (refusal != 0) {
            return refusal;
        }
        if (a[4] < 0 || a[5] < 0 || a[6] < 0) {
            return -4;
        }
        int m = 2 - a[0];
        int n = 2 - a[1];
        int rows = a[3] == 0 ? m + n : Math.max(m, n);
        return a[4] >= rows || a[5] >= rows || a[6] > 8 ? -6 : 0;
    }

    private static boolean noList(int list) {
        return list < 0 || list > 2;
    }

    private static int place(int list, int i) {
        return list == 2 ? -11 : i < 0 || i >= (list == 0 ? 3 : 0) ? -13 : 0;
    }

    private static boolean isPrime(int n) {
        for (int d = 2; d < n; d++) {
            if (n % d == 0) {
                return false;
            }
        }
        return n > 1 && n < 32;
    }

    // ---- scenes

    private static void tell(LettersEliminated x, String text) {
        for (int k = 0; k < text.length(); k++) {
            x.letter(text.charAt(k));
        }
    }

    private static LettersEliminated of(String... texts) {
        LettersEliminated x = new LettersEliminated();
        for (String text : texts) {
            tell(x, text);
            x.poly();
        }
        return x;
    }

    /** Something of everything: an image, two steps to undo, lists, letters. */
    private static LettersEliminated ordinary() {
        LettersEliminated x = of("x^2+y^2", "xy+1", "0");
        x.image();
        x.change(0, 0, 0, 2);
        x.turn(1, 2, 5);
        x.list(0, 3);
        x.put(0, 0, 77);
        x.put(0, 2, -5);
        x.list(1, 0);
        tell(x, "3x");
        return x;
    }

    private static LettersEliminated oneLetterLeft() {
        LettersEliminated x = of("x", "y");
        for (int k = 0; k < 71; k++) {
            x.letter(k % 2 == 0 ? 'y' : '+');
        }
        return x;
    }

    private static LettersEliminated noLetterLeft() {
        LettersEliminated x = oneLetterLeft();
        x.letter('^');
        return x;
    }

    private static LettersEliminated five() {
        LettersEliminated x = of("x", "y", "2", "0", "xy");
        x.change(0, 1, 0, 4);
        tell(x, "y+1");
        return x;
    }

    private static LettersEliminated fiveAndFault() {
        LettersEliminated x = five();
        x.letter('+');
        return x;
    }

    private static LettersEliminated six() {
        LettersEliminated x = of("x", "y", "2", "0", "xy", "x^4y^4");
        x.image();
        x.change(0, 1, 0, 4);
        tell(x, "y+1");
        return x;
    }

    private static LettersEliminated sixAndFault() {
        LettersEliminated x = six();
        x.letter('+');
        return x;
    }

    /** Of the products only 0 with 1, 1 with 0 and 1 with 1 have a power above 4; 2 is NOUGHT. */
    private static LettersEliminated forProducts() {
        LettersEliminated x = of("x^2y", "x^3y", "0");
        x.image();
        x.change(0, 0, 0, 4);
        return x;
    }

    // ---- trying all

    private static void all(String name, Scene scene, int[][] choices, Call call, Due due) {
        tryAll(name, scene, choices, call, due, 0);
    }

    private static void allLong(String name, Scene scene, int[][] choices, Call call, Due due) {
        tryAll(name, scene, choices, call, due, LONG);
    }

    private static void tryAll(String name, Scene scene, int[][] choices, Call call, Due due, long less) {
        long[] before = everything(scene.make());
        int many = 1;
        for (int[] choice : choices) {
            many *= choice.length;
        }
        for (int n = 0; n < many; n++) {
            int rest = n;
            int[] a = new int[choices.length];
            for (int k = 0; k < a.length; k++) {
                a[k] = choices[k][rest % choices[k].length];
                rest /= choices[k].length;
            }
            tryOne(name + Arrays.toString(a), scene.make(), a, call, due.refusal(a), less, before);
        }
    }

    private static void tryOne(String name, LettersEliminated x, int[] a, Call call, int due, long less, long[] before) {
        tried++;
        int[] counts = refusals(x);
        long answer = call.answer(x, a);
        if (due < 0 && due > FIRST_UNCOUNTED) {
            counts[-due - 1]++;
        }
        hold(Arrays.equals(counts, refusals(x)), name + " counts " + Arrays.toString(refusals(x)));
        if (due == 0) {
            hold(answer != -11 && answer != -13 && answer != -14 && answer < LONG, name + " isn't taken: " + answer);
            return;
        }
        refused++;
        long want = less == 0 ? due : less - due;
        hold(answer == want, name + " answered " + answer + ", due is " + want);
        hold(Arrays.equals(before, everything(x)), name + " changed something");
    }

    private static void hold(boolean holds, String what) {
        if (!holds) {
            wrong++;
            if (wrong <= 50) {
                System.out.println(what);
            }
        }
    }

    private static int[] refusals(LettersEliminated x) {
        int[] counts = new int[6];
        for (int k = 0; k < 6; k++) {
            counts[k] = x.count(11 + k);
        }
        return counts;
    }

    /** All that can be seen, but for how many refusals there were; it uses the object up, in some 450 calls. */
    private static long[] everything(LettersEliminated x) {
        long[] seen = new long[512];
        int n = coefficients(x, seen);
        n = see(x, seen, n);
        for (int list = 0; list < 3; list++) {
            for (int i = 0; i < 4; i++) {
                seen[n++] = x.look(list, i);
            }
        }
        for (int k = 0; k < 2; k++) {
            seen[n++] = x.undo();
            n = see(x, seen, n);
        }
        seen[n++] = x.on();
        n = see(x, seen, n);
        seen[n++] = x.drop();
        seen[n++] = x.poly();
        see(x, seen, n);
        return seen;
    }

    private static int coefficients(LettersEliminated x, long[] seen) {
        int n = 0;
        int polys = x.count(0);
        for (int k = 0; k < 25 * polys; k++) {
            seen[n++] = x.coefficient(k / 25, k % 25 / 5, k % 5);
        }
        return n;
    }

    /** Lots stand for the coefficients: an object has no more than 512 calls. */
    private static int see(LettersEliminated x, long[] seen, int from) {
        int n = from;
        for (int what = 0; what <= 5; what++) {
            seen[n++] = x.count(what);
        }
        int polys = x.count(0);
        for (int poly = 0; poly < polys; poly++) {
            seen[n++] = x.of(poly, 0);
            seen[n++] = x.of(poly, 1);
            seen[n++] = x.of(poly, 4);
            seen[n++] = x.lots(poly, 20, 1, 1);
            seen[n++] = x.lots(poly, 20, 2, 1);
        }
        return n;
    }
}
