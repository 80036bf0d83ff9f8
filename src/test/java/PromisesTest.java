/** Each promise of the document by hand: ordinary calls, edges, refusals and which of two comes first. */
public final class PromisesTest {
    private static final long LONG = 4000000000000000000L;
    private static final int LEAST = Integer.MIN_VALUE;
    private static final int MOST = Integer.MAX_VALUE;
    private static int wrong;
    private static int calls;

    public static void main(String[] args) {
        newObject();
        letters();
        texts();
        faults();
        drops();
        primes();
        turns();
        changes();
        coefficients();
        ofs();
        terms();
        values();
        rowCounts();
        entries();
        results();
        degrees();
        ats();
        remainders();
        commons();
        norms();
        extras();
        zeroBits();
        liftedBits();
        rootLists();
        withouts();
        corners();
        areas();
        sums();
        mixedVolumes();
        products();
        oddsOfAll();
        lotsDrawn();
        listsMade();
        puts();
        looks();
        laid();
        judged();
        undone();
        images();
        ons();
        counts();
        System.out.println(wrong == 0 ? calls + " answers are as due" : wrong + " answers are not as due");
        if (wrong != 0) {
            System.exit(1);
        }
    }

    private static void due(String what, long want, long got) {
        calls++;
        if (got != want) {
            wrong++;
            System.out.println(what + " answered " + got + ", due is " + want);
        }
    }

    private static LettersEliminated fresh(String... texts) {
        LettersEliminated x = new LettersEliminated();
        for (String text : texts) {
            tell(x, text);
        }
        return x;
    }

    private static int tell(LettersEliminated x, String text) {
        for (int k = 0; k < text.length(); k++) {
            x.letter(text.charAt(k));
        }
        return x.poly();
    }

    private static void told(String text, int i, int j, int want) {
        LettersEliminated x = fresh();
        due("poly of " + text, 0, tell(x, text));
        due("coefficient of " + text, want, x.coefficient(0, i, j));
    }

    private static void fault(String text, int place) {
        due("fault of " + text, -1000 - place, tell(fresh(), text));
    }

    // ---- promise 1

    private static void newObject() {
        LettersEliminated x = fresh();
        due("1 polynomials", 0, x.count(0));
        due("1 prime", 7, x.count(1));
        due("1 terms", 0, x.count(2));
        due("1 letters", 0, x.count(3));
        due("1 undo", 0, x.count(4));
        due("1 nought", 0, x.count(5));
        for (int what = 11; what <= 16; what++) {
            due("1 refusals", 0, x.count(what));
        }
        due("1 list", -11, x.put(0, 0, 0));
        due("1 list", -11, x.put(1, 0, 0));
        due("1 list", -11, x.put(2, 0, 0));
        due("1 image", -3, x.on());
    }

    // ---- promise 2

    private static void letters() {
        LettersEliminated x = fresh();
        due("2 first", 1, x.letter(0));
        due("2 second", 2, x.letter(255));
        due("2 below", -4, x.letter(-1));
        due("2 far below", -4, x.letter(LEAST));
        due("2 above", -6, x.letter(256));
        due("2 far above", -6, x.letter(MOST));
        due("2 nothing came", 2, x.count(3));
        for (int n = 3; n <= 72; n++) {
            due("2 more", n, x.letter('x'));
        }
        due("2 full", -6, x.letter('x'));
        due("2 full, below first", -4, x.letter(-1));
        due("2 counted", 3, x.count(14));
        due("2 counted", 3, x.count(16));
        due("2 stays", 72, x.count(3));
    }

    // ---- promise 3

    private static void texts() {
        told("x", 1, 0, 1);
        told("y", 0, 1, 1);
        told("-x", 1, 0, 6);
        told("xy", 1, 1, 1);
        told("x^4y^4", 4, 4, 1);
        told("x^1y^1", 1, 1, 1);
        told("07x", 1, 0, 0);
        told("09y^3", 0, 3, 2);
        told("99", 0, 0, 1);
        told("-99x^2y", 2, 1, 6);
        told("x+x+x-y", 1, 0, 3);
        told("x-8x", 1, 0, 0);
        told("xy^2-3x^2y", 1, 2, 1);
        told("xy^2-3x^2y", 2, 1, 4);
        told("0", 0, 0, 0);
        told("3x-5", 0, 0, 2);
        told("-1-2-3", 0, 0, 1);
        LettersEliminated x = fresh();
        due("3 first", 0, tell(x, "x"));
        due("3 letters gone", 0, x.count(3));
        due("3 kind", 0, x.of(0, 0));
        due("3 figure", 0, x.of(0, 1));
        for (int n = 1; n < 6; n++) {
            due("3 next", n, tell(x, "y"));
        }
        x.letter('?');
        due("3 six, ahead of a fault", -6, x.poly());
        due("3 letters stay", 1, x.count(3));
        due("3 counted", 1, x.count(16));
        x.drop();
        due("3 now the fault", -1000, x.poly());
        due("3 letters gone", 0, x.count(3));
        due("3 fault not counted", 0, x.count(11) + x.count(12) + x.count(13) + x.count(14) + x.count(15));
        due("3 number again", 5, tell(x, "2"));
        due("3 the slot is new", 2, x.coefficient(5, 0, 0));
        due("3 the slot is new", 0, x.coefficient(5, 0, 1));
        StringBuilder longest = new StringBuilder("x");
        while (longest.length() < 71) {
            longest.append("+x");
        }
        longest.setLength(71);
        LettersEliminated z = fresh();
        due("3 72 letters", 0, tell(z, longest + "y"));
        due("3 35 and xy", 0, z.coefficient(0, 1, 0));
        due("3 35 and xy", 1, z.coefficient(0, 1, 1));
        slotsAreNew();
    }

    private static void slotsAreNew() {
        LettersEliminated x = fresh("x^3y");
        x.turn(0, 5, 4);
        x.drop();
        tell(x, "x^2");
        due("3 plain again", 0, x.of(0, 0));
        due("3 figure again", 0, x.of(0, 1));
        due("3 one term", 1, x.of(0, 4));
        due("3 that term", 20, x.term(0, 0, 0));
    }

    private static void faults() {
        fault("", 0);
        fault("-", 1);
        fault("+", 0);
        fault("+x", 0);
        fault("--x", 1);
        fault("x+", 2);
        fault("x+-y", 2);
        fault("x++y", 2);
        fault("x-", 2);
        fault("123", 2);
        fault("12 x", 2);
        fault("x^", 2);
        fault("x^0", 2);
        fault("x^5", 2);
        fault("x^22", 3);
        fault("x^+", 2);
        fault("y^9", 2);
        fault("y^", 2);
        fault("yx", 1);
        fault("y^2x", 3);
        fault("xx", 1);
        fault("yy", 1);
        fault("xyy", 2);
        fault("x2", 1);
        fault("xy2", 2);
        fault("2xy^2^2", 5);
        fault("X", 0);
        fault(" x", 0);
        fault("x ", 1);
        fault("3*x", 1);
        fault("x^2y^", 5);
        fault("x^2+3y^2-z", 9);
        LettersEliminated x = fresh("x", "y");
        x.change(0, 0, 0, 1);
        tell(x, "x^");
        due("3 a fault keeps what can be undone", 1, x.count(4));
        due("3 a fault brings none", 2, x.count(0));
    }

    // ---- promise 4

    private static void drops() {
        LettersEliminated x = fresh("x", "y");
        due("4 one left", 1, x.drop());
        due("4 the last is gone", -1, x.of(1, 0));
        due("4 the first stays", 1, x.coefficient(0, 1, 0));
        due("4 none left", 0, x.drop());
        due("4 none there", -3, x.drop());
        due("4 counted", 1, x.count(13));
    }

    // ---- promise 5

    private static void primes() {
        LettersEliminated x = fresh("5x+4y+6");
        int was = 7;
        for (int n : new int[] {31, 29, 23, 19, 17, 13, 11, 7}) {
            due("5 was", was, x.prime(n));
            was = n;
        }
        due("5 stays told", 5, x.coefficient(0, 1, 0));
        due("5 three", 7, x.prime(3));
        due("5 reduced", 2, x.coefficient(0, 1, 0));
        due("5 reduced", 1, x.coefficient(0, 0, 1));
        due("5 reduced", 0, x.coefficient(0, 0, 0));
        due("5 five", 3, x.prime(5));
        due("5 stays reduced", 2, x.coefficient(0, 1, 0));
        due("5 two", 5, x.prime(2));
        due("5 reduced", 0, x.coefficient(0, 1, 0));
        due("5 reduced", 1, x.coefficient(0, 0, 1));
        for (int n : new int[] {LEAST, -7, 0, 1, 4, 6, 8, 9, 15, 21, 25, 27, 30, 32, 37, MOST}) {
            due("5 no prime", -3, x.prime(n));
        }
        due("5 refused", 2, x.count(1));
        due("5 counted", 16, x.count(13));
        x.change(0, 0, 0, 1);
        due("5 the same", 2, x.prime(2));
        due("5 the same leaves nothing to undo", 0, x.count(4));
    }

    // ---- promise 6

    private static void turns() {
        LettersEliminated x = fresh("x");
        due("6 was plain", 0, x.turn(0, 3, 9));
        due("6 was shifted", 39, x.turn(0, 5, 0));
        due("6 was twisted", 50, x.turn(0, 0, 4));
        due("6 was plain with a figure", 4, x.turn(0, 1, 1));
        due("6 kind", 1, x.of(0, 0));
        due("6 figure", 1, x.of(0, 1));
        due("6 nobody first", -1, x.turn(1, 6, -1));
        due("6 nobody", -1, x.turn(-1, 0, 0));
        due("6 kind next", -2, x.turn(0, 6, -1));
        due("6 kind below", -2, x.turn(0, -1, 10));
        due("6 below", -4, x.turn(0, 5, -1));
        due("6 above", -6, x.turn(0, 5, 10));
        due("6 nothing changed", 11, 10 * x.of(0, 0) + x.of(0, 1));
        due("6 four to undo", 4, x.count(4));
    }

    // ---- promise 7

    private static void changes() {
        LettersEliminated x = fresh("3x^2y");
        due("7 was", 3, x.change(0, 2, 1, -1));
        due("7 became modulo", 6, x.coefficient(0, 2, 1));
        due("7 was", 6, x.change(0, 2, 1, 30));
        due("7 became modulo", 2, x.coefficient(0, 2, 1));
        due("7 any int", 0, x.change(0, 4, 4, LEAST));
        due("7 any int", 5, x.change(0, 4, 4, MOST));
        due("7 any int", 1, x.coefficient(0, 4, 4));
        x.turn(0, 2, 0);
        due("7 told, not the coefficient", 2, x.change(0, 2, 1, 2));
        due("7 nobody first", -1, x.change(1, -1, 5, 0));
        due("7 nobody", -1, x.change(-1, 0, 0, 0));
        due("7 below first", -4, x.change(0, 5, -1, 0));
        due("7 below first", -4, x.change(0, -1, 5, 0));
        due("7 above", -6, x.change(0, 5, 0, 0));
        due("7 above", -6, x.change(0, 0, 5, 0));
        due("7 far above", -6, x.change(0, MOST, MOST, 0));
        due("7 counted", 2, x.count(14));
        due("7 counted", 3, x.count(16));
    }

    // ---- promise 8: a polynomial with i j told as digits, by each kind

    private static void coefficients() {
        LettersEliminated x = fresh("1+2x+3x^2+4x^3+5x^4+6y+8xy+9x^2y^3");
        x.prime(31);
        x.drop();
        tell(x, "1+2x+3x^2+4x^3+5x^4+6y+8xy+9x^2y^3");
        due("8 plain", 8, x.coefficient(0, 1, 1));
        due("8 plain", 9, x.coefficient(0, 2, 3));
        x.turn(0, 1, 7);
        due("8 even, odd i", 0, x.coefficient(0, 1, 1));
        due("8 even, odd i", 0, x.coefficient(0, 3, 0));
        due("8 even, even i, odd j", 9, x.coefficient(0, 2, 3));
        due("8 even", 6, x.coefficient(0, 0, 1));
        x.turn(0, 2, 7);
        due("8 swapped", 9, x.coefficient(0, 3, 2));
        due("8 swapped", 0, x.coefficient(0, 2, 3));
        due("8 swapped", 6, x.coefficient(0, 1, 0));
        x.turn(0, 3, 2);
        // 1 + 2(x+2) + 3(x+2)^2 + 4(x+2)^3 + 5(x+2)^4: 1+4+12+32+80 = 129, 2+12+48+160 = 222, 3+24+120 = 147, 4+40, 5
        due("8 shifted", 129 % 31, x.coefficient(0, 0, 0));
        due("8 shifted", 222 % 31, x.coefficient(0, 1, 0));
        due("8 shifted", 147 % 31, x.coefficient(0, 2, 0));
        due("8 shifted", 44 % 31, x.coefficient(0, 3, 0));
        due("8 shifted", 5, x.coefficient(0, 4, 0));
        due("8 shifted", 22, x.coefficient(0, 0, 1));
        due("8 shifted", 36 % 31, x.coefficient(0, 0, 3));
        x.turn(0, 3, 0);
        due("8 shifted by 0", 4, x.coefficient(0, 3, 0));
        x.turn(0, 4, 7);
        due("8 derived", 6, x.coefficient(0, 1, 0));
        due("8 derived, the even part alone", 0, x.coefficient(0, 0, 0));
        due("8 derived", 20, x.coefficient(0, 3, 0));
        due("8 derived", 18, x.coefficient(0, 1, 3));
        due("8 derived, i 4", 0, x.coefficient(0, 4, 0));
        x.turn(0, 5, 3);
        due("8 twisted", 1, x.coefficient(0, 0, 0));
        due("8 twisted", 6, x.coefficient(0, 1, 0));
        due("8 twisted", 6, x.coefficient(0, 0, 1));
        due("8 twisted", 27, x.coefficient(0, 0, 2));
        due("8 twisted", 81 % 31, x.coefficient(0, 3, 2));
        x.turn(0, 5, 0);
        due("8 twisted by 0, power 0", 6, x.coefficient(0, 1, 0));
        due("8 twisted by 0", 0, x.coefficient(0, 0, 1));
        x.prime(7);
        x.turn(0, 5, 9);
        due("8 a figure above the prime", 4, x.coefficient(0, 0, 1));
        due("8 the figure stays", 9, x.of(0, 1));
        due("8 nobody first", -1, x.coefficient(1, -1, 5));
        due("8 below first", -4, x.coefficient(0, 5, -1));
        due("8 below first", -4, x.coefficient(0, -1, 5));
        due("8 above", -6, x.coefficient(0, 5, 0));
        due("8 above", -6, x.coefficient(0, 0, 5));
    }

    // ---- promise 9

    private static void ofs() {
        LettersEliminated x = fresh("x^3y+y^4+x+1", "7");
        due("9 kind", 0, x.of(0, 0));
        due("9 degree in x", 3, x.of(0, 2));
        due("9 degree in y", 4, x.of(0, 3));
        due("9 terms", 4, x.of(0, 4));
        due("9 whole", 4, x.of(0, 5));
        due("9 nought", -9, x.of(1, 2));
        due("9 nought", -9, x.of(1, 3));
        due("9 nought", 0, x.of(1, 4));
        due("9 nought", -9, x.of(1, 5));
        x.turn(0, 2, 8);
        due("9 kind", 2, x.of(0, 0));
        due("9 figure", 8, x.of(0, 1));
        due("9 by coefficients", 4, x.of(0, 2));
        x.change(1, 0, 0, 3);
        due("9 constant", 0, x.of(1, 2));
        due("9 constant", 0, x.of(1, 5));
        due("9 nobody first", -1, x.of(2, 6));
        due("9 what", -2, x.of(0, 6));
        due("9 what", -2, x.of(0, -1));
        due("9 counted", 2, x.count(12));
    }

    // ---- promise 10

    private static void terms() {
        LettersEliminated x = fresh("1+y^4+xy+x^2+x^2y+y^3", "0");
        int[] byX = {21, 20, 11, 4, 3, 0, -9};
        int[] byWhole = {4, 21, 3, 20, 11, 0, -9};
        for (int k = 0; k < byX.length; k++) {
            due("10 order 0", byX[k], x.term(0, 0, k));
            due("10 order 1", byWhole[k], x.term(0, 1, k));
        }
        due("10 far", -9, x.term(0, 1, MOST));
        due("10 nought", -9, x.term(1, 0, 0));
        due("10 nobody first", -1, x.term(2, 2, -1));
        due("10 order next", -2, x.term(0, 2, -1));
        due("10 order", -2, x.term(0, -1, 0));
        due("10 below", -4, x.term(0, 1, -1));
        LettersEliminated full = fresh("x^4y^4+x^4y^3+x^3y^4+x^4+y^4");
        int[] byWholeToo = {44, 43, 34, 40, 4};
        for (int k = 0; k < byWholeToo.length; k++) {
            due("10 order 1", byWholeToo[k], full.term(0, 1, k));
        }
    }

    // ---- promise 11

    private static void values() {
        LettersEliminated x = fresh("x^2y+3y^3+5");
        due("11 at 0 0", 5, x.value(0, 0, 0));
        due("11 at 2 3", (12 + 81 + 5) % 7, x.value(0, 2, 3));
        due("11 at 6 5", (180 + 375 + 5) % 7, x.value(0, 6, 5));
        x.turn(0, 2, 0);
        due("11 by coefficients", (12 + 81 + 5) % 7, x.value(0, 3, 2));
        due("11 nobody first", -1, x.value(1, -1, 7));
        due("11 below first", -4, x.value(0, 7, -1));
        due("11 below first", -4, x.value(0, -1, 7));
        due("11 above", -6, x.value(0, 7, 0));
        due("11 above", -6, x.value(0, 0, 7));
        x.prime(2);
        due("11 above the new prime", -6, x.value(0, 2, 0));
        due("11 greatest", 1, x.value(0, 1, 1));
    }

    // ---- promise 12

    /** 2 is nought, 3 is nobody. */
    private static LettersEliminated pair() {
        return fresh("x^2+y^2-5", "xy-2", "0");
    }

    private static void rowCounts() {
        LettersEliminated x = fresh("x^4+y", "x^2y^3+1", "3", "0");
        due("12 sylvester", 6, x.rows(0, 1, 0, 0));
        due("12 bezout", 4, x.rows(0, 1, 0, 1));
        due("12 sylvester in y", 4, x.rows(0, 1, 1, 0));
        due("12 bezout in y", 3, x.rows(0, 1, 1, 1));
        due("12 none", 0, x.rows(2, 2, 0, 0));
        due("12 none", 0, x.rows(2, 2, 0, 1));
        due("12 one constant", 4, x.rows(2, 0, 0, 0));
        due("12 most", 8, x.rows(0, 0, 0, 0));
        due("12 nobody first", -1, x.rows(4, 3, 0, 2));
        due("12 nobody first", -1, x.rows(3, 4, 0, 2));
        due("12 letter", -1, x.rows(0, 3, 2, 2));
        due("12 letter", -1, x.rows(0, 1, -1, 0));
        due("12 table next", -2, x.rows(0, 3, 0, 2));
        due("12 table", -2, x.rows(0, 1, 0, -1));
        due("12 nought", -3, x.rows(0, 3, 0, 0));
        due("12 nought", -3, x.rows(3, 0, 0, 1));
        due("12 counted", 4, x.count(11));
        due("12 counted", 2, x.count(12));
        due("12 counted", 2, x.count(13));
    }

    // ---- promise 13: P = x^2 + (y^2+2), Q = yx + 5 modulo 7

    private static void entries() {
        LettersEliminated x = pair();
        int[][][] sylvester = {
            {{1}, {0}, {2, 0, 1}},
            {{0, 1}, {5}, {0}},
            {{0}, {0, 1}, {5}}};
        for (int r = 0; r < 3; r++) {
            for (int c = 0; c < 3; c++) {
                for (int k = 0; k <= 8; k++) {
                    int[] cell = sylvester[r][c];
                    due("13 sylvester", k < cell.length ? cell[k] : 0, x.entry(0, 1, 0, 0, r, c, k));
                }
            }
        }
        // bezout: b00 = P1 Q0 - P0 Q1 = -(y^2+2) y; b01 = P2 Q0 - P0 Q2 = 5; b10 = P1Q1-P1Q1 + P2 Q0 - P0 Q2; b11 = P2 Q1 - P1 Q2
        int[][][] bezout = {{{0, 5, 0, 6}, {5}}, {{5}, {0, 1}}};
        for (int r = 0; r < 2; r++) {
            for (int c = 0; c < 2; c++) {
                for (int k = 0; k <= 8; k++) {
                    int[] cell = bezout[r][c];
                    due("13 bezout", k < cell.length ? cell[k] : 0, x.entry(0, 1, 0, 1, r, c, k));
                }
            }
        }
        due("13 power 8", 1, fresh("x^1y^4+x^2y^3", "x^2y^4").entry(1, 0, 0, 1, 1, 1, 8));
        due("13 nobody first", -1, x.entry(0, 3, 0, 2, -1, 9, 9));
        due("13 letter", -1, x.entry(0, 1, 2, 0, 0, 0, 0));
        due("13 table next", -2, x.entry(0, 2, 0, 2, -1, 9, 9));
        due("13 nought next", -3, x.entry(0, 2, 0, 0, -1, 9, 9));
        due("13 below next", -4, x.entry(0, 1, 0, 0, 9, 9, -1));
        due("13 below next", -4, x.entry(0, 1, 0, 0, -1, 9, 9));
        due("13 below next", -4, x.entry(0, 1, 0, 0, 9, -1, 9));
        due("13 no row", -6, x.entry(0, 1, 0, 0, 3, 0, 0));
        due("13 no column", -6, x.entry(0, 1, 0, 0, 0, 3, 0));
        due("13 no row of bezout", -6, x.entry(0, 1, 0, 1, 2, 0, 0));
        due("13 power", -6, x.entry(0, 1, 0, 0, 0, 0, 9));
        due("13 far", -6, x.entry(0, 1, 0, 0, MOST, MOST, MOST));
        due("13 no rows", -6, fresh("3").entry(0, 0, 0, 0, 0, 0, 0));
    }

    // ---- promise 14

    private static void results() {
        LettersEliminated x = pair();
        // 25 + (y^2+2) y^2
        int[] want = {4, 0, 2, 0, 1};
        for (int k = 0; k <= 40; k++) {
            due("14 sylvester", k < 5 ? want[k] : 0, x.result(0, 1, 0, 0, k));
            due("14 bezout", k < 5 ? (7 - want[k]) % 7 : 0, x.result(0, 1, 0, 1, k));
        }
        due("14 of no rows", 1, fresh("3", "5").result(0, 1, 0, 0, 0));
        due("14 of no rows", 0, fresh("3", "5").result(0, 1, 0, 1, 1));
        due("14 in y", 4, x.result(0, 1, 1, 0, 0));
        due("14 a common part", 0, x.result(0, 0, 0, 0, 0));
        due("14 nobody first", -1, x.result(3, 0, 0, 2, -1));
        due("14 letter", -1, x.result(0, 1, 2, 2, -1));
        due("14 table next", -2, x.result(0, 2, 0, 2, -1));
        due("14 nought next", -3, x.result(0, 2, 0, 1, -1));
        due("14 below", -4, x.result(0, 1, 0, 0, -1));
        due("14 above", -6, x.result(0, 1, 0, 0, 41));
        LettersEliminated swap = fresh("xy+1", "x^2y^4+x+y");
        // rows: P1 P0 0 / 0 P1 P0 / Q2 Q1 Q0 with P1 = y, P0 = 1, Q2 = y^4, Q1 = 1, Q0 = y:
        // y (y y - 1) + y^4 = y^4 + y^3 - y
        int[] swapped = {0, 6, 0, 1, 1};
        for (int k = 0; k < 5; k++) {
            due("14 three rows", swapped[k], swap.result(0, 1, 0, 0, k));
        }
        // of y x^2 with Q = x^2 + y^4: (y * y^4)^2
        LettersEliminated noughts = fresh("x^2y", "x^2+y^4");
        due("14 four rows", 1, noughts.result(0, 1, 0, 0, 10));
        due("14 four rows", 10, noughts.degree(0, 1, 0, 0));
        // bezout: 0 y^5 / y^5 0
        due("14 nought in the first place", 6, noughts.result(0, 1, 0, 1, 10));
        due("14 nought in the first place", 0, noughts.result(0, 1, 0, 1, 0));
        noughts.prime(2);
        due("14 modulo 2", 1, noughts.result(0, 1, 0, 0, 10));
        // (y^4 y^4)^4, and of bezout y^8 in four places across
        LettersEliminated great = fresh("x^4y^4", "x^4+y^4");
        due("14 power 32", 1, great.result(0, 1, 0, 0, 32));
        due("14 power 32 alone", 0, great.result(0, 1, 0, 0, 31));
        due("14 bezout, power 32", 1, great.result(0, 1, 0, 1, 32));
    }

    // ---- promise 15

    private static void degrees() {
        LettersEliminated x = pair();
        due("15 sylvester", 4, x.degree(0, 1, 0, 0));
        due("15 bezout", 4, x.degree(0, 1, 0, 1));
        due("15 alike", -9, x.degree(0, 0, 0, 0));
        due("15 alike", -9, x.degree(0, 0, 0, 1));
        due("15 of no rows", 0, fresh("3").degree(0, 0, 0, 0));
        due("15 greatest", 32, fresh("x^4y^4", "x^4+y^4").degree(0, 1, 0, 0));
        due("15 greatest", 32, fresh("x^4y^4", "x^4+y^4").degree(1, 0, 0, 1));
        due("15 nobody first", -1, x.degree(0, 3, 0, 2));
        due("15 letter", -1, x.degree(0, 2, 2, 2));
        due("15 table next", -2, x.degree(0, 2, 0, 2));
        due("15 nought", -3, x.degree(2, 0, 0, 0));
    }

    // ---- promise 16

    private static void ats() {
        LettersEliminated x = pair();
        int[] want = {4, 0, 0, 5, 5, 0, 0};
        for (int v = 0; v < 7; v++) {
            due("16 sylvester", want[v], x.at(0, 1, 0, 0, v));
            due("16 bezout", (7 - want[v]) % 7, x.at(0, 1, 0, 1, v));
        }
        // both leading parts are y: at y = 0 the table's determinant is 0, though 1 and 2 have nothing in common
        due("16 the result's own value", 0, fresh("xy+1", "xy+2").at(0, 1, 0, 0, 0));
        due("16 of no rows", 1, fresh("3").at(0, 0, 1, 0, 6));
        due("16 nobody first", -1, x.at(0, 3, 0, 2, -1));
        due("16 letter", -1, x.at(0, 2, 2, 2, -1));
        due("16 table next", -2, x.at(0, 2, 0, 2, -1));
        due("16 nought next", -3, x.at(0, 2, 0, 0, -1));
        due("16 below", -4, x.at(0, 1, 0, 0, -1));
        due("16 above", -6, x.at(0, 1, 0, 0, 7));
    }

    // ---- promise 17

    private static void remainders() {
        // at y = 0: x^3 + x and x^2 + 1; at y = 1: x^3 + x + 1, x^2 + 1
        LettersEliminated x = fresh("x^3+x+y", "x^2+1", "0", "xy", "xy-y", "y-1");
        due("17 divides", 2, x.remainder(0, 1, 0, 0, -1));
        due("17 degree of P", 3, x.remainder(0, 1, 0, 0, 0));
        due("17 degree of Q", 2, x.remainder(0, 1, 0, 0, 1));
        due("17 no more", -9, x.remainder(0, 1, 0, 0, 2));
        due("17 left", 3, x.remainder(0, 1, 0, 1, -1));
        due("17 left", 0, x.remainder(0, 1, 0, 1, 2));
        due("17 P again", 3, x.remainder(1, 0, 0, 0, -1));
        due("17 P first", 2, x.remainder(1, 0, 0, 0, 0));
        due("17 Q greater", 3, x.remainder(1, 0, 0, 0, 1));
        due("17 P again", 2, x.remainder(1, 0, 0, 0, 2));
        due("17 no more", -9, x.remainder(1, 0, 0, 0, 3));
        due("17 P 0: Q alone", 1, x.remainder(3, 0, 0, 0, -1));
        due("17 P 0: Q alone", 3, x.remainder(3, 0, 0, 0, 0));
        due("17 Q 0: P alone", 1, x.remainder(0, 3, 0, 0, -1));
        due("17 Q 0: P alone", 3, x.remainder(0, 3, 0, 0, 0));
        due("17 both 0", 0, x.remainder(3, 4, 0, 0, -1));
        due("17 both 0", -9, x.remainder(3, 4, 0, 0, 0));
        due("17 in y, x being 0: Q alone", 1, x.remainder(3, 5, 1, 0, -1));
        due("17 in y, x being 2", 3, x.remainder(3, 5, 1, 2, -1));
        due("17 far", -9, x.remainder(0, 1, 0, 0, MOST));
        due("17 nobody first", -1, x.remainder(6, 2, 0, -1, -2));
        due("17 letter", -1, x.remainder(0, 2, 2, -1, -2));
        due("17 nought next", -3, x.remainder(0, 2, 0, -1, -2));
        due("17 below", -4, x.remainder(0, 1, 0, -1, 0));
        due("17 below, too", -4, x.remainder(0, 1, 0, 7, -2));
        due("17 above", -6, x.remainder(0, 1, 0, 7, -1));
        LettersEliminated many = fresh("x^4+x+y", "x^4+2x^3+3x");
        due("17 many", degreesFall(many) + 1, many.remainder(0, 1, 0, 1, -1));
    }

    /** Answers the place of the last degree, if from Q on each is less than the one before. */
    private static int degreesFall(LettersEliminated x) {
        int last = 1;
        for (int k = 2; x.remainder(0, 1, 0, 1, k) != -9; k++) {
            due("17 falls", 1, x.remainder(0, 1, 0, 1, k) < x.remainder(0, 1, 0, 1, k - 1) ? 1 : 0);
            last = k;
        }
        return last;
    }

    // ---- promise 18

    private static void commons() {
        LettersEliminated x = fresh("x^3+x+y", "x^2+1", "0", "xy", "xy-y");
        due("18 at 0", 2, x.common(0, 1, 0, 0));
        due("18 at 1", 0, x.common(0, 1, 0, 1));
        due("18 Q greater", 2, x.common(1, 0, 0, 0));
        due("18 P 0", 3, x.common(3, 0, 0, 0));
        due("18 Q 0", 3, x.common(0, 3, 0, 0));
        due("18 both 0", -9, x.common(3, 4, 0, 0));
        due("18 both y", 1, x.common(3, 4, 1, 2));
        due("18 nobody first", -1, x.common(0, 5, 0, -1));
        due("18 letter", -1, x.common(0, 2, -1, -1));
        due("18 nought next", -3, x.common(2, 0, 0, -1));
        due("18 below", -4, x.common(0, 1, 0, -1));
        due("18 above", -6, x.common(0, 1, 0, 7));
    }

    // ---- promise 19

    private static void norms() {
        LettersEliminated x = fresh("x^2+y", "x+3", "0", "xy", "y+2", "3x^2+xy+5");
        // x^2 + 1 at y = 1: rows (3, 1), (-1, 3): 10
        due("19 at 1", 3, x.norm(0, 1, 0, 1));
        due("19 at 0", 2, x.norm(0, 1, 0, 0));
        due("19 P of degree 1", 2, x.norm(1, 0, 0, 0));
        due("19 P is 0 then", -9, x.norm(3, 0, 0, 0));
        due("19 Q is 0 then", 0, x.norm(0, 3, 0, 0));
        due("19 P a number", 1, x.norm(4, 0, 0, 1));
        due("19 P a number, Q 0", 1, x.norm(4, 3, 0, 0));
        due("19 P is 0 then", -9, x.norm(4, 0, 0, 5));
        // 3x^2 + 2x + 5 at y = 2, x + 3: x^2 = 4x + 3 (1/3 = 5): rows (3, 1), (3, 7 = 0): -3
        due("19 a lead that isn't 1", 4, x.norm(5, 1, 0, 2));
        due("19 nobody first", -1, x.norm(6, 0, 0, -1));
        due("19 letter", -1, x.norm(0, 2, 2, -1));
        due("19 nought next", -3, x.norm(0, 2, 0, -1));
        due("19 below", -4, x.norm(0, 1, 0, -1));
        due("19 above", -6, x.norm(0, 1, 0, 7));
        normIsResult();
    }

    /** Where degrees stay, the result of table 0 is the norm times P's lead to the power of Q's degree. */
    private static void normIsResult() {
        LettersEliminated x = fresh("2x^4+xy+y^3+1", "3x^3+x^2y^2+5");
        for (int v = 0; v < 7; v++) {
            due("19 the result", x.at(0, 1, 0, 0, v), 8 * x.norm(0, 1, 0, v) % 7);
        }
    }

    // ---- promise 20

    private static void extras() {
        LettersEliminated x = fresh("x^2y^2+x^2y+1", "xy^3+xy^2+y", "x+y", "0", "x^3y");
        due("20 y(y+1) and y^2(y+1)", 2, x.extra(0, 1, 0));
        due("20 one of them 1", 0, x.extra(0, 2, 0));
        due("20 y", 1, x.extra(4, 1, 0));
        due("20 in y: x^2 and x", 1, x.extra(0, 1, 1));
        due("20 in y: x and x^3", 1, x.extra(1, 4, 1));
        due("20 nobody first", -1, x.extra(5, 3, 0));
        due("20 letter", -1, x.extra(0, 3, 2));
        due("20 nought", -3, x.extra(0, 3, 0));
        due("20 nought", -3, x.extra(3, 0, 0));
    }

    // ---- promise 21

    private static void zeroBits() {
        LettersEliminated x = pair();
        due("21 zeros", 102, x.zeros(0, 1, 0));
        due("21 alike: all", 127, x.zeros(0, 0, 0));
        due("21 brought in by leading terms", 1, fresh("xy+1", "xy+2").zeros(0, 1, 0));
        due("21 none", 0, fresh("3").zeros(0, 0, 0));
        due("21 nobody first", -1, x.zeros(3, 2, 0));
        due("21 letter", -1, x.zeros(0, 2, 2));
        due("21 nought", -3, x.zeros(0, 2, 0));
        x.prime(31);
        due("21 all of 31", MOST, x.zeros(0, 0, 1));
    }

    // ---- promise 22

    private static void liftedBits() {
        LettersEliminated x = fresh("x-y", "x^2-1", "0", "y-3", "x^2+1");
        due("22 y of (1,1) and (6,6)", 66, x.lifted(0, 1, 0));
        due("22 y of x = 1, 6 and y = 3", 8, x.lifted(1, 3, 0));
        due("22 x of x = 1, 6 and y = 3", 66, x.lifted(1, 3, 1));
        due("22 nought", 127, x.lifted(2, 2, 0));
        due("22 nought and y = 3", 8, x.lifted(2, 3, 0));
        due("22 nought and y = 3", 127, x.lifted(3, 2, 1));
        due("22 none", 0, x.lifted(4, 4, 0));
        due("22 nobody", -1, x.lifted(5, 0, 0));
        due("22 nobody", -1, x.lifted(0, 5, 0));
        due("22 letter", -1, x.lifted(0, 0, 2));
        due("22 letter", -1, x.lifted(0, 0, -1));
        x.prime(31);
        due("22 all of 31", MOST, x.lifted(2, 2, 0));
    }

    // ---- promise 23

    private static void rootLists() {
        LettersEliminated x = fresh("x^2-1", "y^2-4", "0", "x^2+1");
        due("23 how many", 4, x.root(0, 1, -1));
        int[] want = {102, 105, 602, 605, -9};
        for (int k = 0; k < want.length; k++) {
            due("23 in order", want[k], x.root(0, 1, k));
        }
        due("23 nought", 49, x.root(2, 2, -1));
        due("23 nought", 606, x.root(2, 2, 48));
        due("23 nought", -9, x.root(2, 2, 49));
        due("23 none", 0, x.root(0, 3, -1));
        due("23 none", -9, x.root(0, 3, 0));
        due("23 far", -9, x.root(0, 1, MOST));
        due("23 nobody first", -1, x.root(4, 0, -2));
        due("23 nobody first", -1, x.root(0, 4, -2));
        due("23 below", -4, x.root(0, 1, -2));
        x.prime(31);
        due("23 all", 961, x.root(2, 2, -1));
        due("23 all", 3030, x.root(2, 2, 960));
    }

    // ---- promise 24

    private static void withouts() {
        LettersEliminated x = fresh("x^2-x", "y^2-y", "0", "xy");
        due("24 of four one", 1, x.without(0, 1));
        due("24 nought", 36, x.without(2, 2));
        due("24 axes alone", 0, x.without(3, 3));
        due("24 x 1", 6, x.without(0, 2));
        due("24 nobody", -1, x.without(4, 0));
        due("24 nobody", -1, x.without(0, -1));
    }

    // ---- promise 25

    private static void corners() {
        LettersEliminated x = fresh("1+x+x^2+y^2+x^2y^2+xy+y", "x^3y", "x^2+xy+y^2", "0", "xy+y^3+y+x^4y^2+x^2y^4+x^2y");
        int[] square = {0, 20, 22, 2, -9};
        for (int k = 0; k < square.length; k++) {
            due("25 square", square[k], x.corner(0, k));
        }
        due("25 point", 31, x.corner(1, 0));
        due("25 point", -9, x.corner(1, 1));
        due("25 line", 2, x.corner(2, 0));
        due("25 line", 20, x.corner(2, 1));
        due("25 line", -9, x.corner(2, 2));
        int[] five = {1, 21, 42, 24, 3, -9};
        for (int k = 0; k < five.length; k++) {
            due("25 five corners", five[k], x.corner(4, k));
        }
        due("25 upright line", 1, fresh("y^4+y^2+y").corner(0, 0));
        due("25 upright line", 4, fresh("y^4+y^2+y").corner(0, 1));
        due("25 upright line", -9, fresh("y^4+y^2+y").corner(0, 2));
        due("25 nobody first", -1, x.corner(5, -1));
        due("25 nought next", -3, x.corner(3, -1));
        due("25 below", -4, x.corner(0, -1));
        due("25 far", -9, x.corner(0, MOST));
        x.turn(0, 4, 0);
        due("25 by coefficients", 10, x.corner(0, 0));
    }

    // ---- promise 26

    private static void areas() {
        LettersEliminated x = fresh("1+x^4+y^4+x^4y^4+x^2y", "x", "1+x+y", "0", "xy+y^3+x^4y^2+x^2y^4+x^2y");
        due("26 square", 32, x.area(0));
        due("26 point", 0, x.area(1));
        due("26 triangle", 1, x.area(2));
        // (1,1), (2,1), (4,2), (2,4), (0,3): 1-2 = -1, 4-4 = 0, 16-4 = 12, 6-0 = 6, 0-3 = -3
        due("26 five corners", 14, x.area(4));
        due("26 line", 0, fresh("x^2+y^2").area(0));
        due("26 nobody", -1, x.area(5));
        due("26 nobody", -1, x.area(-1));
        due("26 nought", -3, x.area(3));
    }

    // ---- promise 27

    private static void sums() {
        LettersEliminated x = fresh("1+x^4+y^4", "1+x^4y^4", "0", "x^4y^4", "1+x^2");
        int[] want = {0, 40, 84, 48, 4, -9};
        for (int k = 0; k < want.length; k++) {
            due("27 corners", want[k], x.sum(0, 1, k));
            due("27 either way", want[k], x.sum(1, 0, k));
        }
        // (0,0), (4,0), (8,4), (4,8), (0,4): 0 + 16 + 48 + 16 + 0
        due("27 area", 80, x.sum(0, 1, -1));
        due("27 of points", 88, x.sum(3, 3, 0));
        due("27 of points", -9, x.sum(3, 3, 1));
        due("27 of points", 0, x.sum(3, 3, -1));
        due("27 of lines", 40, x.sum(4, 4, 1));
        due("27 of lines", -9, x.sum(4, 4, 2));
        due("27 with itself", 64, x.sum(0, 0, -1));
        due("27 far", -9, x.sum(0, 1, MOST));
        due("27 nobody first", -1, x.sum(5, 2, -2));
        due("27 nobody first", -1, x.sum(2, -1, -2));
        due("27 nought next", -3, x.sum(0, 2, -2));
        due("27 nought next", -3, x.sum(2, 0, 0));
        due("27 below", -4, x.sum(0, 1, -2));
    }

    // ---- promise 28

    private static void mixedVolumes() {
        LettersEliminated x = fresh("1+x^4+y^4", "1+x^4y^4", "0", "x^4y^4", "1+x+y");
        due("28 mixed", 32, x.mixed(0, 1));
        due("28 bezout's number", 4, x.mixed(0, 4));
        due("28 itself", 16, x.mixed(0, 0));
        due("28 point", 0, x.mixed(0, 3));
        due("28 lines", 0, x.mixed(1, 1));
        due("28 nobody first", -1, x.mixed(5, 2));
        due("28 nobody first", -1, x.mixed(2, 5));
        due("28 nought", -3, x.mixed(0, 2));
        due("28 nought", -3, x.mixed(2, 0));
    }

    // ---- promise 29

    private static void products() {
        LettersEliminated x = fresh("x+2y", "3x-y+1", "0", "x^4y^2");
        x.turn(0, 2, 5);
        // (2x + y)(3x - y + 1) = 6x^2 + xy - y^2 + 2x + y
        due("29 number", 4, x.product(0, 1));
        due("29 nothing to undo", 0, x.count(4));
        due("29 xx", 6, x.coefficient(4, 2, 0));
        due("29 xy", 1, x.coefficient(4, 1, 1));
        due("29 yy", 6, x.coefficient(4, 0, 2));
        due("29 x", 2, x.coefficient(4, 1, 0));
        due("29 y", 1, x.coefficient(4, 0, 1));
        due("29 terms", 5, x.of(4, 4));
        due("29 plain", 0, x.of(4, 0));
        due("29 figure", 0, x.of(4, 1));
        due("29 the first stays", 25, 10 * x.of(0, 0) + x.of(0, 1));
        x.change(0, 0, 0, 0);
        due("29 a power 5", -3, x.product(3, 1));
        due("29 powers of y", -3, fresh("y^3", "y^2").product(0, 1));
        due("29 refused: something to undo", 1, x.count(4));
        due("29 with nought", 5, x.product(2, 3));
        due("29 nought", 0, x.of(5, 4));
        due("29 nobody first", -1, x.product(6, 3));
        due("29 nobody first", -1, x.product(3, -1));
        due("29 six next", -6, x.product(3, 3));
        LettersEliminated square = fresh("x^2y^2+1");
        due("29 square", 1, square.product(0, 0));
        due("29 power 4", 1, square.coefficient(1, 4, 4));
        due("29 square of it", -3, square.product(1, 1));
    }

    // ---- promise 30

    private static void oddsOfAll() {
        LettersEliminated x = fresh("x", "0", "1", "x^2-1", "xy");
        due("30 one of seven", 1, x.odds(0, 0));
        due("30 one of seven", 7, x.odds(0, 1));
        due("30 sure", 1, x.odds(1, 0));
        due("30 sure", 1, x.odds(1, 1));
        due("30 never", 0, x.odds(2, 0));
        due("30 never", 1, x.odds(2, 1));
        due("30 two of seven", 2, x.odds(3, 0));
        due("30 two of seven", 7, x.odds(3, 1));
        due("30 13 of 49", 13, x.odds(4, 0));
        due("30 13 of 49", 49, x.odds(4, 1));
        due("30 nobody first", LONG + 1, x.odds(5, 2));
        due("30 part", LONG + 2, x.odds(0, 2));
        due("30 part", LONG + 2, x.odds(0, -1));
        due("30 counted", 1, x.count(11));
        due("30 counted", 2, x.count(12));
    }

    // ---- promise 31: from z 0: 1013904223, 1196435762, -775096599, -1426500812

    private static void lotsDrawn() {
        LettersEliminated x = fresh("x", "y", "0", "x+y");
        int first = 1013904223 / 256 % 7;
        int second = 1196435762 / 256 % 7;
        int third = (int) ((-775096599L + (1L << 31)) / 256 % 7);
        int fourth = (int) ((-1426500812L + (1L << 31)) / 256 % 7);
        due("31 first x", first, x.lots(0, 1, 0, 1));
        due("31 first y", second, x.lots(1, 1, 0, 1));
        due("31 two", first + third, x.lots(0, 2, 0, 1));
        due("31 two", second + fourth, x.lots(1, 2, 0, 1));
        due("31 together", (first + second) % 7 + (third + fourth) % 7, x.lots(3, 2, 0, 1));
        due("31 how often", (first == 0 ? 1 : 0) + (third == 0 ? 1 : 0), x.lots(0, 2, 0, 0));
        due("31 always", 50, x.lots(2, 50, -5, 0));
        due("31 nothing together", 0, x.lots(2, 50, -5, 1));
        due("31 nobody first", -1, x.lots(4, 0, 0, 2));
        due("31 below next", -4, x.lots(0, 0, 0, 2));
        due("31 below", -4, x.lots(0, LEAST, 0, 0));
        due("31 above next", -6, x.lots(0, 51, 0, 2));
        due("31 what", -2, x.lots(0, 1, 0, 2));
        due("31 what", -2, x.lots(0, 50, 0, -1));
        int zeros = x.lots(0, 50, 12345, 0);
        due("31 the same again", zeros, x.lots(0, 50, 12345, 0));
    }

    // ---- promise 32

    private static void listsMade() {
        LettersEliminated x = fresh();
        due("32 made", 1, x.list(0, 40));
        due("32 all 0", 0, x.look(0, 39));
        x.put(0, 3, 9);
        due("32 made again", 1, x.list(0, 4));
        due("32 all 0", 0, x.look(0, 3));
        due("32 shorter", -13, x.put(0, 4, 1));
        due("32 of none", 1, x.list(2, 0));
        due("32 not missing", -13, x.put(2, 0, 1));
        due("32 nobody first", -1, x.list(3, 41));
        due("32 nobody first", -1, x.list(-1, -1));
        due("32 above", -6, x.list(0, 41));
        due("32 below", -14, x.list(0, -1));
        due("32 far below", -14, x.list(0, LEAST));
        due("32 stays", 0, x.look(0, 3));
        due("32 counted", 2, x.count(11));
        due("32 counted", 1, x.count(16));
        due("32 not counted", 0, x.count(12) + x.count(13) + x.count(14) + x.count(15));
    }

    // ---- promise 33

    private static void puts() {
        LettersEliminated x = fresh();
        due("33 missing first", -11, x.put(1, -1, 5));
        x.list(1, 3);
        due("33 put", 1, x.put(1, 0, LEAST));
        due("33 put", 1, x.put(1, 2, MOST));
        due("33 there", LEAST, x.look(1, 0));
        due("33 there", MOST, x.look(1, 2));
        due("33 between", 0, x.look(1, 1));
        due("33 no place", -13, x.put(1, 3, 5));
        due("33 no place", -13, x.put(1, -1, 5));
        due("33 nobody first", -1, x.put(3, 9, 5));
        due("33 nobody first", -1, x.put(-1, 9, 5));
        due("33 counted", 2, x.count(11));
    }

    // ---- promise 34

    private static void looks() {
        LettersEliminated x = fresh();
        due("34 missing first", LONG + 11, x.look(0, -1));
        x.list(0, 2);
        x.put(0, 1, -7);
        due("34 below 0", -7, x.look(0, 1));
        due("34 no place", LONG + 13, x.look(0, 2));
        due("34 no place", LONG + 13, x.look(0, -1));
        due("34 nobody first", LONG + 1, x.look(3, 0));
        due("34 nobody first", LONG + 1, x.look(LEAST, 0));
        due("34 counted", 2, x.count(11));
        for (int what = 12; what <= 16; what++) {
            due("34 not counted", 0, x.count(what));
        }
    }

    // ---- promise 35

    private static void laid() {
        LettersEliminated x = pair();
        due("35 missing", -11, x.lays(0, -1, 0, 1, 0, 0));
        x.list(0, 7);
        for (int i = 0; i < 7; i++) {
            x.put(0, i, 99);
        }
        due("35 from 3 on", 4, x.lays(0, 3, 0, 1, 0, 0));
        int[] want = {99, 99, 99, 4, 0, 2, 0};
        for (int i = 0; i < 7; i++) {
            due("35 laid", want[i], x.look(0, i));
        }
        due("35 above the degree, too", 7, x.lays(0, 0, 0, 1, 0, 1));
        int[] bezout = {3, 0, 5, 0, 6, 0, 0};
        for (int i = 0; i < 7; i++) {
            due("35 laid", bezout[i], x.look(0, i));
        }
        due("35 the last place", 1, x.lays(0, 6, 0, 1, 0, 0));
        due("35 the last place", 4, x.look(0, 6));
        due("35 the size", -13, x.lays(0, 7, 0, 1, 0, 0));
        due("35 below", -13, x.lays(0, -1, 0, 1, 0, 0));
        x.list(1, 0);
        due("35 no place", -13, x.lays(1, 0, 0, 1, 0, 0));
        due("35 nobody first", -1, x.lays(3, 0, 0, 2, 0, 2));
        due("35 nobody first", -1, x.lays(0, 0, 3, 2, 0, 2));
        due("35 nobody first", -1, x.lays(0, 0, 2, -1, 0, 2));
        due("35 letter", -1, x.lays(0, 0, 2, 2, 2, 2));
        due("35 table next", -2, x.lays(2, 0, 0, 2, 0, 2));
        due("35 nought next", -3, x.lays(2, 0, 0, 2, 0, 0));
        due("35 missing next", -11, x.lays(2, 99, 0, 1, 0, 0));
        due("35 counted", 4, x.count(11));
    }

    // ---- promise 36

    private static void judged() {
        LettersEliminated x = pair();
        due("36 missing", -11, x.judge(0, 0, 1, 0, 0));
        x.list(0, 0);
        due("36 ends at once", 0, x.judge(0, 0, 1, 0, 0));
        due("36 ends at once: 0", -9, x.judge(0, 0, 0, 0, 0));
        x.list(0, 6);
        x.put(0, 0, -3);
        due("36 otherwise at 2", 2, x.judge(0, 0, 1, 0, 0));
        x.put(0, 2, 9);
        due("36 otherwise at 4", 4, x.judge(0, 0, 1, 0, 0));
        x.put(0, 4, 701);
        due("36 so", -9, x.judge(0, 0, 1, 0, 0));
        due("36 bezout", 0, x.judge(0, 0, 1, 0, 1));
        x.put(0, 5, 7);
        due("36 modulo", -9, x.judge(0, 0, 1, 0, 0));
        x.put(0, 5, 1);
        due("36 otherwise at 5", 5, x.judge(0, 0, 1, 0, 0));
        x.list(1, 40);
        x.lays(1, 0, 0, 1, 0, 0);
        due("36 as laid", -9, x.judge(1, 0, 1, 0, 0));
        x.put(1, 39, 1);
        due("36 otherwise at 39", 39, x.judge(1, 0, 1, 0, 0));
        x.list(2, 4);
        x.lays(2, 0, 0, 1, 0, 0);
        due("36 ends ahead of 4", 4, x.judge(2, 0, 1, 0, 0));
        due("36 nobody first", -1, x.judge(3, 0, 2, 0, 2));
        due("36 nobody first", -1, x.judge(0, 3, 2, 0, 2));
        due("36 letter", -1, x.judge(0, 0, 2, 2, 2));
        LettersEliminated missing = pair();
        due("36 table next", -2, missing.judge(0, 0, 2, 0, 2));
        due("36 nought next", -3, missing.judge(0, 0, 2, 0, 0));
        due("36 missing isn't counted", -11, missing.judge(2, 0, 1, 0, 0));
        due("36 counted", 1, missing.count(12));
        due("36 counted", 1, missing.count(13));
    }

    // ---- promise 37

    private static void undone() {
        LettersEliminated x = fresh("x", "y");
        due("37 none", -3, x.undo());
        for (int n = 1; n <= 20; n++) {
            x.change(0, 4, 4, n % 7);
            due("37 how many can be", Math.min(n, 16), x.count(4));
        }
        for (int n = 15; n >= 0; n--) {
            due("37 still", n, x.undo());
            due("37 as it was", (n + 4) % 7, x.coefficient(0, 4, 4));
        }
        due("37 older ones no more", -3, x.undo());
        due("37 counted", 2, x.count(13));
        x.change(1, 0, 0, 3);
        x.turn(1, 5, 9);
        x.turn(1, 5, 9);
        x.change(1, 0, 0, 3);
        x.change(1, 5, 0, 3);
        x.turn(1, 6, 3);
        due("37 refused ones leave none, like ones do", 4, x.count(4));
        due("37 a like one", 3, x.undo());
        due("37 a like one", 2, x.undo());
        due("37 still twisted", 59, 10 * x.of(1, 0) + x.of(1, 1));
        due("37 the turn", 1, x.undo());
        due("37 plain again", 0, 10 * x.of(1, 0) + x.of(1, 1));
        due("37 plain again", 1, x.coefficient(1, 0, 1));
        due("37 the change", 0, x.undo());
        due("37 as it was", 0, x.coefficient(1, 0, 0));
        leavesNone();
    }

    private static void leavesNone() {
        LettersEliminated x = fresh("x");
        x.image();
        for (int call = 0; call < 5; call++) {
            x.change(0, 0, 0, 1);
            x.turn(0, 2, 2);
            x.image();
            due("37 image leaves them", 2, x.count(4));
            x.prime(4);
            x.product(0, 9);
            tell(x, "x^");
            due("37 refused leaves them", 2, x.count(4));
            switch (call) {
                case 0: tell(x, "y"); break;
                case 1: x.product(0, 1); break;
                case 2: x.drop(); break;
                case 3: x.prime(7); break;
                default: x.on(); break;
            }
            due("37 leaves none, " + call, 0, x.count(4));
            due("37 leaves none, " + call, -3, x.undo());
        }
    }

    // ---- promises 38, 39

    private static void images() {
        LettersEliminated x = fresh();
        due("38 of none", 0, x.image());
        tell(x, "x");
        tell(x, "5y");
        due("38 two", 2, x.image());
        x.change(0, 1, 0, 4);
        due("38 does not follow", 2, x.on());
        due("38 does not follow", 1, x.coefficient(0, 1, 0));
        x.change(0, 1, 0, 4);
        x.image();
        x.drop();
        due("38 the latest", 2, x.on());
        due("38 the latest", 4, x.coefficient(0, 1, 0));
    }

    private static void ons() {
        LettersEliminated x = fresh("x", "5y+1");
        due("39 none", -3, x.on());
        due("39 counted", 1, x.count(13));
        x.turn(1, 3, 4);
        x.image();
        x.turn(1, 2, 0);
        x.prime(2);
        x.drop();
        x.drop();
        x.letter('x');
        x.list(0, 3);
        x.put(0, 2, 77);
        due("39 two again", 2, x.on());
        due("39 the prime", 7, x.count(1));
        due("39 told", 5, x.coefficient(1, 0, 1));
        due("39 kind and figure", 34, 10 * x.of(1, 0) + x.of(1, 1));
        due("39 letters stay", 1, x.count(3));
        due("39 lists stay", 77, x.look(0, 2));
        due("39 refusals stay", 1, x.count(13));
        x.change(0, 1, 0, 3);
        tell(x, "");
        due("39 three", 3, x.count(0));
        due("39 again", 2, x.on());
        due("39 again", 1, x.coefficient(0, 1, 0));
        due("39 what was the third is gone", -1, x.of(2, 0));
    }

    // ---- promise 40

    private static void counts() {
        LettersEliminated x = fresh("x+y", "0", "xy+x+1", "7");
        due("40 polynomials", 4, x.count(0));
        due("40 prime", 7, x.count(1));
        due("40 terms", 5, x.count(2));
        x.letter('x');
        due("40 letters", 1, x.count(3));
        x.turn(2, 4, 0);
        due("40 undo", 1, x.count(4));
        due("40 terms by coefficients", 2, x.count(2));
        due("40 nought", 14, x.count(5));
        x.of(9, 0);
        x.of(0, 9);
        x.of(0, 9);
        x.prime(1);
        x.prime(1);
        x.prime(1);
        x.letter(-1);
        x.letter(256);
        x.letter(256);
        int[] want = {1, 2, 3, 1, 0, 2};
        for (int what = 11; what <= 16; what++) {
            due("40 refusals", want[what - 11], x.count(what));
        }
        for (int what : new int[] {LEAST, -1, 6, 7, 8, 9, 10, 17, MOST}) {
            due("40 another what", -9, x.count(what));
        }
        due("40 that isn't counted", 9, x.count(11) + x.count(12) + x.count(13) + x.count(14) + x.count(16));
    }
}
