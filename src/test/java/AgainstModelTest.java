import java.util.Random;

/** Long runs of chosen calls, each answered by the class and by the model; the seeds are fixed. */
public final class AgainstModelTest {
    private static final int RUNS = 250;
    private static final int CALLS = 512;
    private static final int[] PRIMES = {2, 3, 5, 7, 11, 13, 17, 19, 23, 29, 31};
    private static final int[] ODD = {Integer.MIN_VALUE, Integer.MAX_VALUE, -2, -1, 0, 1, 2, 4, 5, 6, 8, 9, 10, 31, 40, 41};

    private final Random random;
    private LettersEliminated own;
    private Model model;
    private final StringBuilder log = new StringBuilder();
    private int wrong;

    private AgainstModelTest(long seed) {
        random = new Random(seed);
        own = new LettersEliminated();
        model = new Model();
    }

    public static void main(String[] args) {
        int wrong = 0;
        for (int run = 0; run < RUNS && wrong == 0; run++) {
            AgainstModelTest test = new AgainstModelTest(run);
            for (int call = 0; call < CALLS && test.wrong == 0; call++) {
                test.step();
            }
            if (test.wrong > 0) {
                System.out.println("seed " + run + test.log);
            }
            wrong += test.wrong;
        }
        System.out.println(wrong == 0 ? "the class and the model agree" : "the class and the model differ");
        if (wrong != 0) {
            System.exit(1);
        }
    }

    private void same(String call, long got, long want) {
        log.append("\n  ").append(call).append(" answered ").append(got);
        if (got != want) {
            wrong++;
            log.append(", due is ").append(want);
        }
    }

    private int pick(int... from) {
        return from[random.nextInt(from.length)];
    }

    private int mostly(int bound) {
        return random.nextInt(40) == 0 ? pick(ODD) : random.nextInt(bound);
    }

    private int who() {
        return random.nextInt(30) == 0 ? pick(ODD) : random.nextInt(Math.max(1, model.polys.size()));
    }

    private int number() {
        return random.nextInt(30) == 0 ? pick(ODD) : random.nextInt(model.p);
    }

    private String text() {
        StringBuilder s = new StringBuilder();
        int terms = 1 + random.nextInt(random.nextInt(4) == 0 ? 14 : 5);
        for (int t = 0; t < terms; t++) {
            if (t > 0 || random.nextInt(4) == 0) {
                s.append(t > 0 && random.nextBoolean() ? '+' : '-');
            }
            boolean number = random.nextBoolean();
            if (number) {
                s.append(random.nextInt(10));
                if (random.nextInt(3) == 0) {
                    s.append(random.nextInt(10));
                }
            }
            boolean x = random.nextInt(3) > 0;
            if (x) {
                s.append('x').append(power());
            }
            if (random.nextInt(3) > 0 || !x && !number) {
                s.append('y').append(power());
            }
        }
        if (random.nextInt(6) == 0) {
            String signs = "xy^+-0123456789 zX\u00e9";
            int place = random.nextInt(s.length() + 1);
            char sign = signs.charAt(random.nextInt(signs.length()));
            if (random.nextBoolean() && place < s.length()) {
                s.setCharAt(place, sign);
            } else {
                s.insert(place, sign);
            }
        } else if (random.nextInt(12) == 0) {
            s.setLength(random.nextInt(s.length() + 1));
        }
        return s.toString();
    }

    private String power() {
        return random.nextInt(3) == 0 ? "" : "^" + (1 + random.nextInt(random.nextBoolean() ? 2 : 4));
    }

    private void tell(String text) {
        for (char c : text.toCharArray()) {
            same("letter " + c, own.letter(c), model.letter(c));
        }
        same("poly()", own.poly(), model.poly());
    }

    private void step() {
        int a = who();
        int b = who();
        int letter = mostly(2);
        int table = mostly(2);
        if (model.polys.size() < 2 && random.nextInt(3) > 0) {
            tell(text());
            return;
        }
        switch (random.nextInt(9)) {
            case 0: polynomials(a); break;
            case 1: state(a, b); break;
            case 2: changes(a); break;
            case 3: tables(a, b, letter, table); break;
            case 4: tables(a, b, letter, table); break;
            case 5: numbers(a, b, letter); break;
            case 6: roots(a, b, letter); break;
            case 7: polygons(a, b); break;
            default: lists(a, b, letter, table); break;
        }
    }

    private void polynomials(int a) {
        int i = mostly(5);
        int j = mostly(5);
        int what = mostly(6);
        int order = mostly(2);
        int k = mostly(12);
        int x = number();
        int y = number();
        same("coefficient " + a + " " + i + " " + j, own.coefficient(a, i, j), model.coefficient(a, i, j));
        same("of " + a + " " + what, own.of(a, what), model.of(a, what));
        same("term " + a + " " + order + " " + k, own.term(a, order, k), model.term(a, order, k));
        same("value " + a + " " + x + " " + y, own.value(a, x, y), model.value(a, x, y));
        for (int w = -1; w < 18; w++) {
            same("count " + w, own.count(w), model.count(w));
        }
    }

    private void state(int a, int b) {
        switch (random.nextInt(9)) {
            case 0: tell(text()); break;
            case 1: tell(text()); break;
            case 2: same("drop()", own.drop(), model.drop()); break;
            case 3: {
                int n = random.nextInt(3) == 0 ? pick(ODD) : pick(PRIMES);
                same("prime " + n, own.prime(n), model.prime(n));
                break;
            }
            case 4: same("image()", own.image(), model.image()); break;
            case 5: same("on()", own.on(), model.on()); break;
            case 6: same("product " + a + " " + b, own.product(a, b), model.product(a, b)); break;
            case 7: {
                int c = pick(-1, 0, 'x', 255, 256);
                for (int n = random.nextInt(80); n >= 0; n--) {
                    same("letter " + c, own.letter(c), model.letter(c));
                }
                same("poly()", own.poly(), model.poly());
                break;
            }
            default: same("undo()", own.undo(), model.undo()); break;
        }
    }

    private void changes(int a) {
        for (int n = random.nextInt(6); n >= 0; n--) {
            int kind = mostly(6);
            int figure = mostly(10);
            int i = mostly(5);
            int j = mostly(5);
            int v = random.nextInt(4) == 0 ? random.nextInt() : random.nextInt(40) - 5;
            switch (random.nextInt(4)) {
                case 0:
                    same("turn " + a + " " + kind + " " + figure, own.turn(a, kind, figure), model.turn(a, kind, figure));
                    break;
                case 1:
                    same("undo()", own.undo(), model.undo());
                    break;
                default:
                    same("change " + a + " " + i + " " + j + " " + v, own.change(a, i, j, v), model.change(a, i, j, v));
                    break;
            }
        }
    }

    private void tables(int a, int b, int letter, int table) {
        String who = " " + a + " " + b + " " + letter + " " + table + " ";
        int r = mostly(6);
        int c = mostly(6);
        int k = mostly(9);
        int power = mostly(34);
        int v = number();
        same("rows" + who, own.rows(a, b, letter, table), model.rows(a, b, letter, table));
        same("entry" + who + r + " " + c + " " + k,
            own.entry(a, b, letter, table, r, c, k), model.entry(a, b, letter, table, r, c, k));
        same("result" + who + power, own.result(a, b, letter, table, power), model.result(a, b, letter, table, power));
        same("degree" + who, own.degree(a, b, letter, table), model.degree(a, b, letter, table));
        same("at" + who + v, own.at(a, b, letter, table, v), model.at(a, b, letter, table, v));
    }

    private void numbers(int a, int b, int letter) {
        String who = " " + a + " " + b + " " + letter + " ";
        int v = number();
        int k = random.nextInt(20) == 0 ? pick(ODD) : random.nextInt(8) - 1;
        same("remainder" + who + v + " " + k, own.remainder(a, b, letter, v, k), model.remainder(a, b, letter, v, k));
        same("common" + who + v, own.common(a, b, letter, v), model.common(a, b, letter, v));
        same("norm" + who + v, own.norm(a, b, letter, v), model.norm(a, b, letter, v));
        same("extra" + who, own.extra(a, b, letter), model.extra(a, b, letter));
        same("zeros" + who, own.zeros(a, b, letter), model.zeros(a, b, letter));
    }

    private void roots(int a, int b, int letter) {
        String who = " " + a + " " + b + " ";
        int k = random.nextInt(20) == 0 ? pick(ODD) : random.nextInt(12) - 1;
        int part = mostly(2);
        int n = random.nextInt(10) == 0 ? pick(-1, 0, 50, 51) : 1 + random.nextInt(50);
        int z = random.nextInt();
        same("root" + who + k, own.root(a, b, k), model.root(a, b, k));
        switch (random.nextInt(3)) {
            case 0: same("lifted" + who + letter, own.lifted(a, b, letter), model.lifted(a, b, letter)); break;
            case 1: same("without" + who, own.without(a, b), model.without(a, b)); break;
            default: same("odds " + a + " " + part, own.odds(a, part), model.odds(a, part)); break;
        }
        same("lots " + a + " " + n + " " + z + " " + part, own.lots(a, n, z, part), model.lots(a, n, z, part));
    }

    private void polygons(int a, int b) {
        String who = " " + a + " " + b + " ";
        int k = random.nextInt(20) == 0 ? pick(ODD) : random.nextInt(10) - 1;
        same("corner " + a + " " + k, own.corner(a, k), model.corner(a, k));
        same("area " + a, own.area(a), model.area(a));
        same("sum" + who + k, own.sum(a, b, k), model.sum(a, b, k));
        same("mixed" + who, own.mixed(a, b), model.mixed(a, b));
    }

    private void lists(int a, int b, int letter, int table) {
        int list = mostly(3);
        int n = random.nextInt(5) == 0 ? pick(ODD) : random.nextInt(41);
        int i = random.nextInt(10) == 0 ? pick(ODD) : random.nextInt(12);
        int v = random.nextInt(100) - 50;
        String who = " " + a + " " + b + " " + letter + " " + table;
        switch (random.nextInt(6)) {
            case 0: same("list " + list + " " + n, own.list(list, n), model.list(list, n)); break;
            case 1: same("put " + list + " " + i + " " + v, own.put(list, i, v), model.put(list, i, v)); break;
            case 2: {
                for (int place = -1; place < 41; place++) {
                    same("look " + list + " " + place, own.look(list, place), model.look(list, place));
                }
                break;
            }
            case 3: same("judge " + list + who, own.judge(list, a, b, letter, table), model.judge(list, a, b, letter, table)); break;
            default: {
                int first = random.nextInt(3) == 0 ? i : 0;
                same("lays " + list + " " + first + who,
                    own.lays(list, first, a, b, letter, table), model.lays(list, first, a, b, letter, table));
                same("judge " + list + who, own.judge(list, a, b, letter, table), model.judge(list, a, b, letter, table));
                break;
            }
        }
    }
}
