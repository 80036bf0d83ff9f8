import java.util.Arrays;

/** Letters eliminated: polynomials in two letters by a prime, their tables, results, roots and polygons. */
public final class LettersEliminated {
    private static final int NOBODY = -1;
    private static final int OTHER = -2;
    private static final int STATE = -3;
    private static final int BELOW = -4;
    private static final int ROOM = -6;
    private static final int NONE = -9;
    private static final int MISSING = -11;
    private static final int NO_PLACE = -13;
    private static final int NO_SIZE = -14;
    private static final int FAULT = -1000;
    private static final long LONG_REFUSAL = 4000000000000000000L;

    private static final int MOST_POLYS = 6;
    private static final int MOST_POWER = 4;
    private static final int SIDE = MOST_POWER + 1;
    private static final int MOST_FIGURE = 9;
    private static final int MOST_ENTRY_POWER = 8;
    private static final int MOST_RESULT_POWER = 40;
    private static final int MOST_DRAWS = 50;

    private final Shelf now = new Shelf();
    private final Shelf then = new Shelf();
    private final Reader reader = new Reader();
    private final Past past = new Past();
    private final Table grid = new Table();
    private final Chain chain = new Chain();
    private final Polygon polygon = new Polygon();
    private final Roots roots = new Roots();
    private final Lists lists = new Lists();
    private final int[] refusals = new int[7];
    private boolean imageTaken;

    /** Promise 1. */
    public LettersEliminated() {
        imageTaken = false;
    }

    // ---- polynomials

    /** Promise 2. */
    public int letter(int c) {
        if (c < 0) {
            return refuse(BELOW);
        }
        if (c > 255 || reader.isFull()) {
            return refuse(ROOM);
        }
        return reader.take(c);
    }

    /** Promise 3. */
    public int poly() {
        if (now.isFull()) {
            return refuse(ROOM);
        }
        int fault = reader.read();
        reader.forget();
        if (fault >= 0) {
            return FAULT - fault;
        }
        past.forget();
        Poly fresh = now.addPlain();
        System.arraycopy(reader.sums, 0, fresh.told, 0, fresh.told.length);
        fresh.reduceBy(now.modulus);
        return now.size - 1;
    }

    /** Promise 4. */
    public int drop() {
        if (now.size == 0) {
            return refuse(STATE);
        }
        past.forget();
        now.size--;
        return now.size;
    }

    /** Promise 5. */
    public int prime(int n) {
        if (!Numbers.isPrime(n)) {
            return refuse(STATE);
        }
        past.forget();
        int before = now.modulus;
        now.reduceBy(n);
        return before;
    }

    /** Promise 6. */
    public int turn(int poly, int kind, int figure) {
        if (!now.has(poly)) {
            return refuse(NOBODY);
        }
        if (kind < 0 || kind > Poly.LAST_KIND) {
            return refuse(OTHER);
        }
        if (figure < 0) {
            return refuse(BELOW);
        }
        if (figure > MOST_FIGURE) {
            return refuse(ROOM);
        }
        Poly turned = now.polys[poly];
        int before = 10 * turned.kind + turned.figure;
        past.note(poly, Past.TURNED, before);
        turned.become(kind, figure, now.modulus);
        return before;
    }

    /** Promise 7. */
    public int change(int poly, int i, int j, int v) {
        int refusal = powersRefusal(poly, i, j);
        if (refusal != 0) {
            return refuse(refusal);
        }
        Poly changed = now.polys[poly];
        int place = SIDE * i + j;
        int before = changed.told[place];
        past.note(poly, place, before);
        changed.tell(place, v, now.modulus);
        return before;
    }

    /** Promise 8. */
    public int coefficient(int poly, int i, int j) {
        int refusal = powersRefusal(poly, i, j);
        if (refusal != 0) {
            return refuse(refusal);
        }
        return now.polys[poly].coefs[SIDE * i + j];
    }

    /** Promise 9. */
    public int of(int poly, int what) {
        if (!now.has(poly)) {
            return refuse(NOBODY);
        }
        Poly asked = now.polys[poly];
        switch (what) {
            case 0:
                return asked.kind;
            case 1:
                return asked.figure;
            case 2:
                return asked.degreeIn(0);
            case 3:
                return asked.degreeIn(1);
            case 4:
                return asked.howManyTerms();
            case 5:
                return asked.wholeDegree();
            default:
                return refuse(OTHER);
        }
    }

    /** Promise 10. */
    public int term(int poly, int order, int k) {
        if (!now.has(poly)) {
            return refuse(NOBODY);
        }
        if (order < 0 || order > 1) {
            return refuse(OTHER);
        }
        if (k < 0) {
            return refuse(BELOW);
        }
        Poly asked = now.polys[poly];
        return order == 0 ? asked.termByLetter(k) : asked.termByWhole(k);
    }

    /** Promise 11. */
    public int value(int poly, int x, int y) {
        if (!now.has(poly)) {
            return refuse(NOBODY);
        }
        if (x < 0 || y < 0) {
            return refuse(BELOW);
        }
        if (x >= now.modulus || y >= now.modulus) {
            return refuse(ROOM);
        }
        return roots.valueOf(now.polys[poly], x, y, now.modulus);
    }

    // ---- results

    /** Promise 12. */
    public int rows(int one, int other, int letter, int table) {
        int refusal = tableRefusal(one, other, letter, table);
        if (refusal != 0) {
            return refuse(refusal);
        }
        return Table.sizeOf(now.polys[one], now.polys[other], letter, table);
    }

    /** Promise 13. */
    public int entry(int one, int other, int letter, int table, int r, int c, int k) {
        int refusal = tableRefusal(one, other, letter, table);
        if (refusal != 0) {
            return refuse(refusal);
        }
        if (r < 0 || c < 0 || k < 0) {
            return refuse(BELOW);
        }
        int size = Table.sizeOf(now.polys[one], now.polys[other], letter, table);
        if (r >= size || c >= size || k > MOST_ENTRY_POWER) {
            return refuse(ROOM);
        }
        grid.fill(now.polys[one], now.polys[other], letter, table, now.modulus);
        return grid.cellPower(r, c, k);
    }

    /** Promise 14. */
    public int result(int one, int other, int letter, int table, int k) {
        int refusal = tableRefusal(one, other, letter, table);
        if (refusal != 0) {
            return refuse(refusal);
        }
        if (k < 0) {
            return refuse(BELOW);
        }
        if (k > MOST_RESULT_POWER) {
            return refuse(ROOM);
        }
        solve(one, other, letter, table);
        return grid.outcome[k];
    }

    /** Promise 15. */
    public int degree(int one, int other, int letter, int table) {
        int refusal = tableRefusal(one, other, letter, table);
        if (refusal != 0) {
            return refuse(refusal);
        }
        solve(one, other, letter, table);
        return Numbers.degreeOf(grid.outcome);
    }

    /** Promise 16. */
    public int at(int one, int other, int letter, int table, int v) {
        int refusal = tableRefusal(one, other, letter, table);
        if (refusal == 0) {
            refusal = numberRefusal(v);
        }
        if (refusal != 0) {
            return refuse(refusal);
        }
        solve(one, other, letter, table);
        return Numbers.valueAt(grid.outcome, v, now.modulus);
    }

    /** Promise 17. */
    public int remainder(int one, int other, int letter, int v, int k) {
        int refusal = tableRefusal(one, other, letter, Table.SYLVESTER);
        if (refusal != 0) {
            return refuse(refusal);
        }
        if (v < 0 || k < -1) {
            return refuse(BELOW);
        }
        if (v >= now.modulus) {
            return refuse(ROOM);
        }
        divideAt(one, other, letter, v);
        return k == -1 ? chain.links : chain.linkDegree(k);
    }

    /** Promise 18. */
    public int common(int one, int other, int letter, int v) {
        int refusal = atRefusal(one, other, letter, v);
        if (refusal != 0) {
            return refuse(refusal);
        }
        divideAt(one, other, letter, v);
        return chain.lastDegree();
    }

    /** Promise 19. */
    public int norm(int one, int other, int letter, int v) {
        int refusal = atRefusal(one, other, letter, v);
        if (refusal != 0) {
            return refuse(refusal);
        }
        int p = now.modulus;
        now.polys[one].reduceAt(letter, v, p, chain.first);
        now.polys[other].reduceAt(letter, v, p, chain.second);
        int d = Numbers.degreeOf(chain.first);
        if (d < 0) {
            return NONE;
        }
        grid.clear(d, 0);
        chain.layMultiples(grid, d, p);
        grid.expand(p);
        return grid.outcome[0];
    }

    /** Promise 20. */
    public int extra(int one, int other, int letter) {
        int refusal = tableRefusal(one, other, letter, Table.SYLVESTER);
        if (refusal != 0) {
            return refuse(refusal);
        }
        now.polys[one].leadingPart(letter, chain.first);
        now.polys[other].leadingPart(letter, chain.second);
        chain.divideOn(now.modulus);
        return chain.lastDegree();
    }

    /** Promise 21. */
    public int zeros(int one, int other, int letter) {
        int refusal = tableRefusal(one, other, letter, Table.SYLVESTER);
        if (refusal != 0) {
            return refuse(refusal);
        }
        solve(one, other, letter, Table.SYLVESTER);
        int bits = 0;
        for (int v = 0; v < now.modulus; v++) {
            if (Numbers.valueAt(grid.outcome, v, now.modulus) == 0) {
                bits |= 1 << v;
            }
        }
        return bits;
    }

    /** Promise 22. */
    public int lifted(int one, int other, int letter) {
        if (!now.has(one) || !now.has(other) || !isLetter(letter)) {
            return refuse(NOBODY);
        }
        tryAll(one, other, NONE);
        return letter == 0 ? roots.bitsOfY : roots.bitsOfX;
    }

    /** Promise 23. */
    public int root(int one, int other, int k) {
        if (!now.has(one) || !now.has(other)) {
            return refuse(NOBODY);
        }
        if (k < -1) {
            return refuse(BELOW);
        }
        tryAll(one, other, k);
        return k == -1 ? roots.found : roots.wantedRoot;
    }

    /** Promise 24. */
    public int without(int one, int other) {
        if (!now.has(one) || !now.has(other)) {
            return refuse(NOBODY);
        }
        tryAll(one, other, NONE);
        return roots.foundWithoutNoughts;
    }

    // ---- polygons, products

    /** Promise 25. */
    public int corner(int poly, int k) {
        int refusal = polygonRefusal(poly, poly);
        if (refusal != 0) {
            return refuse(refusal);
        }
        if (k < 0) {
            return refuse(BELOW);
        }
        polygon.ofOne(now.polys[poly]);
        return polygon.cornerCode(k);
    }

    /** Promise 26. */
    public int area(int poly) {
        int refusal = polygonRefusal(poly, poly);
        if (refusal != 0) {
            return refuse(refusal);
        }
        polygon.ofOne(now.polys[poly]);
        return polygon.twiceCovered();
    }

    /** Promise 27. */
    public int sum(int one, int other, int k) {
        int refusal = polygonRefusal(one, other);
        if (refusal != 0) {
            return refuse(refusal);
        }
        if (k < -1) {
            return refuse(BELOW);
        }
        polygon.ofTwo(now.polys[one], now.polys[other]);
        return k == -1 ? polygon.twiceCovered() : polygon.cornerCode(k);
    }

    /** Promise 28. */
    public int mixed(int one, int other) {
        int refusal = polygonRefusal(one, other);
        if (refusal != 0) {
            return refuse(refusal);
        }
        polygon.ofOne(now.polys[one]);
        int parts = polygon.twiceCovered();
        polygon.ofOne(now.polys[other]);
        parts += polygon.twiceCovered();
        polygon.ofTwo(now.polys[one], now.polys[other]);
        return (polygon.twiceCovered() - parts) / 2;
    }

    /** Promise 29. */
    public int product(int one, int other) {
        if (!now.has(one) || !now.has(other)) {
            return refuse(NOBODY);
        }
        if (now.isFull()) {
            return refuse(ROOM);
        }
        if (!now.polys[one].multipliesWith(now.polys[other])) {
            return refuse(STATE);
        }
        past.forget();
        Poly fresh = now.addPlain();
        fresh.multiply(now.polys[one], now.polys[other], now.modulus);
        return now.size - 1;
    }

    /** Promise 30. */
    public long odds(int poly, int part) {
        if (!now.has(poly)) {
            return refuseLong(NOBODY);
        }
        if (part < 0 || part > 1) {
            return refuseLong(OTHER);
        }
        tryAll(poly, poly, NONE);
        int all = now.modulus * now.modulus;
        int divisor = Numbers.commonDivisor(roots.found, all);
        return (part == 0 ? roots.found : all) / divisor;
    }

    /** Promise 31. */
    public int lots(int poly, int n, int z, int what) {
        if (!now.has(poly)) {
            return refuse(NOBODY);
        }
        if (n < 1) {
            return refuse(BELOW);
        }
        if (n > MOST_DRAWS) {
            return refuse(ROOM);
        }
        if (what < 0 || what > 1) {
            return refuse(OTHER);
        }
        return roots.drawLots(now.polys[poly], n, z, what, now.modulus);
    }

    // ---- lists of numbers

    /** Promise 32. */
    public int list(int list, int n) {
        if (!lists.has(list)) {
            return refuse(NOBODY);
        }
        if (n > Lists.MOST_PLACES) {
            return refuse(ROOM);
        }
        if (n < 0) {
            return NO_SIZE;
        }
        lists.make(list, n);
        return 1;
    }

    /** Promise 33. */
    public int put(int list, int i, int v) {
        int refusal = placeRefusal(list, i);
        if (refusal != 0) {
            return refusal == NOBODY ? refuse(NOBODY) : refusal;
        }
        lists.write(list, i, v);
        return 1;
    }

    /** Promise 34. */
    public long look(int list, int i) {
        int refusal = placeRefusal(list, i);
        if (refusal != 0) {
            return refusal == NOBODY ? refuseLong(NOBODY) : LONG_REFUSAL - refusal;
        }
        return lists.readAt(list, i);
    }

    /** Promise 35. */
    public int lays(int list, int i, int one, int other, int letter, int table) {
        int refusal = lists.has(list) ? tableRefusal(one, other, letter, table) : NOBODY;
        if (refusal != 0) {
            return refuse(refusal);
        }
        refusal = placeRefusal(list, i);
        if (refusal != 0) {
            return refusal;
        }
        solve(one, other, letter, table);
        return lists.lay(list, i, grid.outcome);
    }

    /** Promise 36. */
    public int judge(int list, int one, int other, int letter, int table) {
        int refusal = lists.has(list) ? tableRefusal(one, other, letter, table) : NOBODY;
        if (refusal != 0) {
            return refuse(refusal);
        }
        if (lists.isMissing(list)) {
            return MISSING;
        }
        solve(one, other, letter, table);
        return lists.firstUnlike(list, grid.outcome, now.modulus);
    }

    // ---- the image

    /** Promise 37. */
    public int undo() {
        if (past.size == 0) {
            return refuse(STATE);
        }
        past.takeBack(now);
        return past.size;
    }

    /** Promise 38. */
    public int image() {
        then.copyFrom(now);
        imageTaken = true;
        return now.size;
    }

    /** Promise 39. */
    public int on() {
        if (!imageTaken) {
            return refuse(STATE);
        }
        past.forget();
        now.copyFrom(then);
        return now.size;
    }

    /** Promise 40. */
    public int count(int what) {
        switch (what) {
            case 0:
                return now.size;
            case 1:
                return now.modulus;
            case 2:
                return now.termsOfAll();
            case 3:
                return reader.size;
            case 4:
                return past.size;
            case 5:
                return now.noughtBits();
            default:
                return what >= 11 && what <= 16 ? refusals[what - 10] : NONE;
        }
    }

    // ---- refusals

    private int refuse(int number) {
        int place = -number;
        if (place > 0 && place < refusals.length) {
            refusals[place]++;
        }
        return number;
    }

    private long refuseLong(int number) {
        return LONG_REFUSAL - refuse(number);
    }

    private static boolean isLetter(int letter) {
        return letter == 0 || letter == 1;
    }

    private int powersRefusal(int poly, int i, int j) {
        if (!now.has(poly)) {
            return NOBODY;
        }
        if (i < 0 || j < 0) {
            return BELOW;
        }
        return i > MOST_POWER || j > MOST_POWER ? ROOM : 0;
    }

    private int tableRefusal(int one, int other, int letter, int table) {
        if (!now.has(one) || !now.has(other) || !isLetter(letter)) {
            return NOBODY;
        }
        if (table != Table.SYLVESTER && table != Table.BEZOUT) {
            return OTHER;
        }
        return now.polys[one].isNought() || now.polys[other].isNought() ? STATE : 0;
    }

    private int numberRefusal(int v) {
        if (v < 0) {
            return BELOW;
        }
        return v >= now.modulus ? ROOM : 0;
    }

    private int atRefusal(int one, int other, int letter, int v) {
        int refusal = tableRefusal(one, other, letter, Table.SYLVESTER);
        return refusal != 0 ? refusal : numberRefusal(v);
    }

    private int polygonRefusal(int one, int other) {
        if (!now.has(one) || !now.has(other)) {
            return NOBODY;
        }
        return now.polys[one].isNought() || now.polys[other].isNought() ? STATE : 0;
    }

    private int placeRefusal(int list, int i) {
        if (!lists.has(list)) {
            return NOBODY;
        }
        if (lists.isMissing(list)) {
            return MISSING;
        }
        return lists.hasPlace(list, i) ? 0 : NO_PLACE;
    }

    // ---- steps that several calls share

    private void solve(int one, int other, int letter, int table) {
        grid.fill(now.polys[one], now.polys[other], letter, table, now.modulus);
        grid.expand(now.modulus);
    }

    private void divideAt(int one, int other, int letter, int v) {
        now.polys[one].reduceAt(letter, v, now.modulus, chain.first);
        now.polys[other].reduceAt(letter, v, now.modulus, chain.second);
        chain.divideOn(now.modulus);
    }

    private void tryAll(int one, int other, int wanted) {
        roots.tryAll(now.polys[one], now.polys[other], wanted, now.modulus);
    }

    /** Arithmetic modulo a prime, and polynomials of one letter as rows of numbers. */
    private static final class Numbers {
        private static final int[] PRIMES = {2, 3, 5, 7, 11, 13, 17, 19, 23, 29, 31};

        private Numbers() {
        }

        static boolean isPrime(int n) {
            for (int known : PRIMES) {
                if (known == n) {
                    return true;
                }
            }
            return false;
        }

        static int power(int base, int exponent, int p) {
            int power = 1;
            for (int k = 0; k < exponent; k++) {
                power = power * base % p;
            }
            return power;
        }

        /** The primes are small, so trying is as good as any other way. */
        static int inverse(int number, int p) {
            for (int tried = 1; tried < p; tried++) {
                if (number * tried % p == 1) {
                    return tried;
                }
            }
            return 0;
        }

        static int degreeOf(int[] row) {
            for (int power = row.length - 1; power >= 0; power--) {
                if (row[power] != 0) {
                    return power;
                }
            }
            return NONE;
        }

        static int valueAt(int[] row, int v, int p) {
            int value = 0;
            for (int power = row.length - 1; power >= 0; power--) {
                value = (value * v + row[power]) % p;
            }
            return value;
        }

        /** Of 0 and b it is b, which makes 0 by 1 of every fraction that is 0. */
        static int commonDivisor(int a, int b) {
            int great = b;
            int small = a;
            for (int step = 0; step < 64 && small != 0; step++) {
                int left = great % small;
                great = small;
                small = left;
            }
            return great == 0 ? 1 : great;
        }
    }

    /** One polynomial: what was told, and the coefficients that its kind makes of that. */
    private static final class Poly {
        static final int LAST_KIND = 5;
        private static final int EVEN = 1;
        private static final int SWAPPED = 2;
        private static final int SHIFTED = 3;
        private static final int DERIVED = 4;
        private static final int TWISTED = 5;

        int kind;
        int figure;
        final int[] told = new int[SIDE * SIDE];
        final int[] coefs = new int[SIDE * SIDE];

        void copyFrom(Poly source) {
            kind = source.kind;
            figure = source.figure;
            System.arraycopy(source.told, 0, told, 0, told.length);
            System.arraycopy(source.coefs, 0, coefs, 0, coefs.length);
        }

        void clear() {
            kind = 0;
            figure = 0;
            Arrays.fill(told, 0);
            Arrays.fill(coefs, 0);
        }

        void become(int newKind, int newFigure, int p) {
            kind = newKind;
            figure = newFigure;
            refresh(p);
        }

        void tell(int place, int v, int p) {
            if (place >= 0 && place < told.length) {
                told[place] = Math.floorMod(v, p);
                refresh(p);
            }
        }

        void reduceBy(int p) {
            for (int place = 0; place < told.length; place++) {
                told[place] = Math.floorMod(told[place], p);
            }
            refresh(p);
        }

        private void refresh(int p) {
            for (int i = 0; i < SIDE; i++) {
                for (int j = 0; j < SIDE; j++) {
                    coefs[SIDE * i + j] = byKind(i, j, p);
                }
            }
            if (kind == SHIFTED) {
                shift(p);
            }
        }

        private int byKind(int i, int j, int p) {
            switch (kind) {
                case EVEN:
                    return even(i, j);
                case SWAPPED:
                    return told[SIDE * j + i];
                case DERIVED:
                    return i == MOST_POWER ? 0 : (i + 1) * even(i + 1, j) % p;
                case TWISTED:
                    return told[SIDE * j + i] * Numbers.power(figure, j, p) % p;
                default:
                    return told[SIDE * i + j];
            }
        }

        private int even(int i, int j) {
            return i % 2 == 0 ? told[SIDE * i + j] : 0;
        }

        /** Horner's way, done again for each power, puts x plus figure for x in place. */
        private void shift(int p) {
            for (int low = 0; low < MOST_POWER; low++) {
                for (int i = MOST_POWER - 1; i >= low; i--) {
                    for (int j = 0; j < SIDE; j++) {
                        int above = coefs[SIDE * (i + 1) + j];
                        coefs[SIDE * i + j] = (coefs[SIDE * i + j] + figure * above) % p;
                    }
                }
            }
        }

        boolean hasTerm(int i, int j) {
            return coefs[SIDE * i + j] != 0;
        }

        boolean isNought() {
            return howManyTerms() == 0;
        }

        int howManyTerms() {
            int terms = 0;
            for (int coef : coefs) {
                if (coef != 0) {
                    terms++;
                }
            }
            return terms;
        }

        int degreeIn(int letter) {
            int greatest = NONE;
            for (int i = 0; i < SIDE; i++) {
                for (int j = 0; j < SIDE; j++) {
                    if (hasTerm(i, j)) {
                        greatest = Math.max(greatest, letter == 0 ? i : j);
                    }
                }
            }
            return greatest;
        }

        int wholeDegree() {
            int greatest = NONE;
            for (int i = 0; i < SIDE; i++) {
                for (int j = 0; j < SIDE; j++) {
                    if (hasTerm(i, j)) {
                        greatest = Math.max(greatest, i + j);
                    }
                }
            }
            return greatest;
        }

        int termByLetter(int k) {
            int ahead = 0;
            for (int i = MOST_POWER; i >= 0; i--) {
                for (int j = MOST_POWER; j >= 0; j--) {
                    if (!hasTerm(i, j)) {
                        continue;
                    }
                    if (ahead == k) {
                        return 10 * i + j;
                    }
                    ahead++;
                }
            }
            return NONE;
        }

        int termByWhole(int k) {
            int ahead = 0;
            for (int whole = 2 * MOST_POWER; whole >= 0; whole--) {
                for (int i = Math.min(MOST_POWER, whole); i >= 0 && whole - i <= MOST_POWER; i--) {
                    if (!hasTerm(i, whole - i)) {
                        continue;
                    }
                    if (ahead == k) {
                        return 10 * i + whole - i;
                    }
                    ahead++;
                }
            }
            return NONE;
        }

        /** The coefficient of power a of a letter and power b of the other one; 0 where no such powers are. */
        int part(int letter, int a, int b) {
            if (a < 0 || a > MOST_POWER || b < 0 || b > MOST_POWER) {
                return 0;
            }
            return letter == 0 ? coefs[SIDE * a + b] : coefs[SIDE * b + a];
        }

        /** What is left as a polynomial of the letter, if the other letter is v. */
        void reduceAt(int letter, int v, int p, int[] row) {
            for (int a = 0; a < SIDE && a < row.length; a++) {
                int value = 0;
                for (int b = MOST_POWER; b >= 0; b--) {
                    value = (value * v + part(letter, a, b)) % p;
                }
                row[a] = value;
            }
        }

        /** What stands with the greatest power of the letter, as a polynomial of the other one. */
        void leadingPart(int letter, int[] row) {
            int greatest = degreeIn(letter);
            for (int b = 0; b < SIDE && b < row.length; b++) {
                row[b] = part(letter, greatest, b);
            }
        }

        /** Modulo a prime leading terms never cancel, so that degrees of a product are sums of degrees. */
        boolean multipliesWith(Poly other) {
            return degreeIn(0) + other.degreeIn(0) <= MOST_POWER && degreeIn(1) + other.degreeIn(1) <= MOST_POWER;
        }

        void multiply(Poly one, Poly other, int p) {
            for (int i = 0; i < SIDE; i++) {
                for (int j = 0; j < SIDE; j++) {
                    if (one.hasTerm(i, j)) {
                        addMultiple(other, i, j, one.coefs[SIDE * i + j]);
                    }
                }
            }
            reduceBy(p);
        }

        private void addMultiple(Poly other, int i, int j, int times) {
            for (int a = 0; a + i < SIDE; a++) {
                for (int b = 0; b + j < SIDE; b++) {
                    told[SIDE * (a + i) + b + j] += times * other.coefs[SIDE * a + b];
                }
            }
        }
    }

    /** The prime and the polynomials: what there is now, and what an image holds. */
    private static final class Shelf {
        int modulus = 7;
        int size;
        final Poly[] polys = new Poly[MOST_POLYS];

        Shelf() {
            for (int poly = 0; poly < MOST_POLYS; poly++) {
                polys[poly] = new Poly();
            }
        }

        boolean has(int poly) {
            return poly >= 0 && poly < size;
        }

        boolean isFull() {
            return size >= MOST_POLYS;
        }

        /** Asked only where there is room. */
        Poly addPlain() {
            if (size < MOST_POLYS) {
                size++;
            }
            Poly fresh = polys[size - 1];
            fresh.clear();
            return fresh;
        }

        void reduceBy(int newModulus) {
            modulus = newModulus;
            for (int poly = 0; poly < size; poly++) {
                polys[poly].reduceBy(newModulus);
            }
        }

        void copyFrom(Shelf source) {
            modulus = source.modulus;
            size = source.size;
            for (int poly = 0; poly < size; poly++) {
                polys[poly].copyFrom(source.polys[poly]);
            }
        }

        int termsOfAll() {
            int terms = 0;
            for (int poly = 0; poly < size; poly++) {
                terms += polys[poly].howManyTerms();
            }
            return terms;
        }

        int noughtBits() {
            int bits = 0;
            for (int poly = 0; poly < size; poly++) {
                if (polys[poly].isNought()) {
                    bits |= 1 << poly;
                }
            }
            return bits;
        }
    }

    /** The letters that came, and the reading of them. */
    private static final class Reader {
        private static final int MOST_LETTERS = 72;
        private static final int END = -1;

        int size;
        final int[] sums = new int[SIDE * SIDE];
        private final int[] letters = new int[MOST_LETTERS];
        private int place;
        private int number;
        private int powerOfX;
        private int powerOfY;

        boolean isFull() {
            return size >= MOST_LETTERS;
        }

        int take(int letter) {
            if (size < MOST_LETTERS) {
                letters[size] = letter;
                size++;
            }
            return size;
        }

        void forget() {
            size = 0;
        }

        /** Adds the terms up in the sums; answers the place of the fault, or -1 without one. */
        int read() {
            Arrays.fill(sums, 0);
            place = 0;
            int sign = 1;
            if (next() == '-') {
                sign = -1;
                place++;
            }
            for (int terms = 0; terms <= MOST_LETTERS; terms++) {
                if (!readTerm()) {
                    return place;
                }
                sums[SIDE * powerOfX + powerOfY] += sign * number;
                int follows = next();
                if (follows == END) {
                    return -1;
                }
                if (follows != '+' && follows != '-') {
                    return place;
                }
                sign = follows == '+' ? 1 : -1;
                place++;
            }
            return place;
        }

        private int next() {
            return place >= 0 && place < size ? letters[place] : END;
        }

        private boolean readTerm() {
            int start = place;
            readNumber();
            powerOfX = readPower('x');
            if (powerOfX < 0) {
                return false;
            }
            powerOfY = readPower('y');
            return powerOfY >= 0 && place > start;
        }

        private void readNumber() {
            number = 0;
            int start = place;
            while (place < start + 2 && next() >= '0' && next() <= '9') {
                number = 10 * number + next() - '0';
                place++;
            }
            if (place == start) {
                number = 1;
            }
        }

        /** Answers -1 if the power lacks its digit; the place is the fault's then. */
        private int readPower(int letter) {
            if (next() != letter) {
                return 0;
            }
            place++;
            if (next() != '^') {
                return 1;
            }
            place++;
            int digit = next() - '0';
            if (digit < 1 || digit > MOST_POWER) {
                return -1;
            }
            place++;
            return digit;
        }
    }

    /** What can be undone: the latest changes and turns. */
    private static final class Past {
        static final int TURNED = -1;
        private static final int MOST_STEPS = 16;

        int size;
        private final int[] whose = new int[MOST_STEPS];
        private final int[] where = new int[MOST_STEPS];
        private final int[] before = new int[MOST_STEPS];

        void forget() {
            size = 0;
        }

        void note(int poly, int place, int was) {
            if (size == MOST_STEPS) {
                forgetOldest();
            }
            whose[size] = poly;
            where[size] = place;
            before[size] = was;
            size++;
        }

        private void forgetOldest() {
            size = MOST_STEPS - 1;
            System.arraycopy(whose, 1, whose, 0, size);
            System.arraycopy(where, 1, where, 0, size);
            System.arraycopy(before, 1, before, 0, size);
        }

        void takeBack(Shelf shelf) {
            if (size == 0) {
                return;
            }
            size--;
            if (!shelf.has(whose[size])) {
                return;
            }
            Poly poly = shelf.polys[whose[size]];
            if (where[size] == TURNED) {
                poly.become(before[size] / 10, before[size] % 10, shelf.modulus);
            } else {
                poly.tell(where[size], before[size], shelf.modulus);
            }
        }
    }

    /** A table whose cells are polynomials of one letter, and its determinant. */
    private static final class Table {
        static final int SYLVESTER = 0;
        static final int BEZOUT = 1;
        private static final int MOST_ROWS = 2 * MOST_POWER;
        private static final int CELL_WIDTH = 2 * MOST_POWER + 1;
        /** No minor has more than power 32: 8 rows of 4, or 4 rows of 8. */
        private static final int WIDTH = 33;

        final int[] outcome = new int[MOST_RESULT_POWER + 1];
        private final int[] cells = new int[MOST_ROWS * MOST_ROWS * CELL_WIDTH];
        /** The sets of columns are bits. */
        private final int[] minors = new int[WIDTH << MOST_ROWS];
        /** The degree of each minor, -1 of one that is 0. */
        private final int[] tops = new int[1 << MOST_ROWS];
        private int size;
        /** The greatest power that a cell may have. */
        private int span;
        private int degreeOfOne;
        private int degreeOfOther;

        static int sizeOf(Poly one, Poly other, int letter, int table) {
            int m = one.degreeIn(letter);
            int n = other.degreeIn(letter);
            return Math.max(0, table == SYLVESTER ? m + n : Math.max(m, n));
        }

        private static int baseOf(int r, int c) {
            return (r * MOST_ROWS + c) * CELL_WIDTH;
        }

        void clear(int newSize, int newSpan) {
            size = Math.min(newSize, MOST_ROWS);
            span = newSpan;
            Arrays.fill(cells, 0);
        }

        int cellPower(int r, int c, int k) {
            return cells[baseOf(r, c) + k];
        }

        void setNumber(int r, int c, int number) {
            cells[baseOf(r, c)] = number;
        }

        void fill(Poly one, Poly other, int letter, int table, int p) {
            clear(sizeOf(one, other, letter, table), table == SYLVESTER ? MOST_POWER : 2 * MOST_POWER);
            degreeOfOne = one.degreeIn(letter);
            degreeOfOther = other.degreeIn(letter);
            for (int r = 0; r < size; r++) {
                for (int c = 0; c < size; c++) {
                    if (table == SYLVESTER) {
                        fillSylvester(one, other, letter, r, c);
                    } else {
                        fillBezout(one, other, letter, r, c);
                    }
                    reduceCell(baseOf(r, c), p);
                }
            }
        }

        private void reduceCell(int base, int p) {
            for (int power = 0; power <= span; power++) {
                cells[base + power] = Math.floorMod(cells[base + power], p);
            }
        }

        private void fillSylvester(Poly one, Poly other, int letter, int r, int c) {
            int base = baseOf(r, c);
            for (int b = 0; b <= MOST_POWER; b++) {
                cells[base + b] = r < degreeOfOther
                    ? one.part(letter, degreeOfOne + r - c, b)
                    : other.part(letter, r - c, b);
            }
        }

        private void fillBezout(Poly one, Poly other, int letter, int r, int c) {
            int base = baseOf(r, c);
            int last = Math.min(r, size - 1 - c);
            for (int k = 0; k <= last; k++) {
                for (int a = 0; a <= MOST_POWER; a++) {
                    for (int b = 0; b <= MOST_POWER; b++) {
                        cells[base + a + b] += one.part(letter, c + k + 1, a) * other.part(letter, r - k, b)
                            - one.part(letter, r - k, a) * other.part(letter, c + k + 1, b);
                    }
                }
            }
        }

        /**
         * The minor of a set of columns is that of the first rows, as many as it has columns: expanded along
         * its last row it needs minors of smaller sets alone, and no division.
         */
        void expand(int p) {
            Arrays.fill(outcome, 0);
            minors[0] = 1;
            tops[0] = 0;
            int all = (1 << size) - 1;
            for (int set = 1; set <= all; set++) {
                expandSet(set, p);
            }
            for (int power = 0; power <= tops[all]; power++) {
                outcome[power] = minors[WIDTH * all + power];
            }
        }

        private void expandSet(int set, int p) {
            int base = WIDTH * set;
            int row = Integer.bitCount(set) - 1;
            int reach = Math.min((row + 1) * span, WIDTH - 1);
            for (int power = 0; power <= reach; power++) {
                minors[base + power] = 0;
            }
            int sign = 1;
            for (int c = size - 1; c >= 0; c--) {
                if ((set >> c & 1) != 0) {
                    addMultiple(base, baseOf(row, c), set ^ 1 << c, sign);
                    sign = -sign;
                }
            }
            tops[set] = -1;
            for (int power = 0; power <= reach; power++) {
                int number = minors[base + power];
                if (number != 0) {
                    number = Math.floorMod(number, p);
                    minors[base + power] = number;
                    tops[set] = number != 0 ? power : tops[set];
                }
            }
        }

        private void addMultiple(int target, int cell, int rest, int sign) {
            int source = WIDTH * rest;
            int top = tops[rest];
            for (int a = 0; a <= span; a++) {
                int times = sign * cells[cell + a];
                if (times == 0) {
                    continue;
                }
                for (int b = 0; b <= top; b++) {
                    minors[target + a + b] += times * minors[source + b];
                }
            }
        }
    }

    /** Two polynomials of one letter, divided by one another as long as something is left. */
    private static final class Chain {
        /** At most 4, 4, 3, 2, 1, 0 or 3, 4, 3, 2, 1, 0 are their degrees. */
        private static final int MOST_LINKS = 8;

        final int[] first = new int[SIDE];
        final int[] second = new int[SIDE];
        int links;
        private final int[] degrees = new int[MOST_LINKS];

        /** Uses both rows up. */
        void divideOn(int p) {
            links = 0;
            int[] lastButOne = first;
            int[] last = second;
            note(Numbers.degreeOf(lastButOne));
            for (int step = 0; step < MOST_LINKS && Numbers.degreeOf(last) >= 0; step++) {
                note(Numbers.degreeOf(last));
                divide(lastButOne, last, p);
                int[] left = lastButOne;
                lastButOne = last;
                last = left;
            }
        }

        private void note(int degree) {
            if (degree >= 0 && links < MOST_LINKS) {
                degrees[links] = degree;
                links++;
            }
        }

        /** What is left of the row takes its place. */
        private static void divide(int[] row, int[] divisor, int p) {
            int degree = Numbers.degreeOf(divisor);
            if (degree < 0) {
                return;
            }
            int inverse = Numbers.inverse(divisor[degree], p);
            for (int power = Numbers.degreeOf(row); power >= degree; power--) {
                int times = row[power] * inverse % p;
                for (int b = 0; b <= degree; b++) {
                    int place = power - degree + b;
                    row[place] = Math.floorMod(row[place] - times * divisor[b], p);
                }
            }
        }

        int linkDegree(int k) {
            return k >= 0 && k < links ? degrees[k] : NONE;
        }

        int lastDegree() {
            return linkDegree(links - 1);
        }

        /** Lays what is left of the second row times the letter's powers, divided by the first, of degree d. */
        void layMultiples(Table table, int d, int p) {
            for (int r = 0; r < d; r++) {
                divide(second, first, p);
                for (int c = 0; c < d && c < SIDE; c++) {
                    table.setNumber(r, c, second[c]);
                }
                raise();
            }
        }

        /** What was divided has less than the greatest power, so nothing is lost. */
        private void raise() {
            for (int power = SIDE - 1; power > 0; power--) {
                second[power] = second[power - 1];
            }
            second[0] = 0;
        }
    }

    /** The common roots of two polynomials, found by trying all pairs, and values at pairs. */
    private static final class Roots {
        private static final int WITHOUT_SIGN = 0x7fffffff;

        int found;
        int foundWithoutNoughts;
        int wantedRoot;
        int bitsOfX;
        int bitsOfY;
        private final int[] oneAtX = new int[SIDE];
        private final int[] otherAtX = new int[SIDE];
        private int seed;

        void tryAll(Poly one, Poly other, int wanted, int p) {
            found = 0;
            foundWithoutNoughts = 0;
            wantedRoot = NONE;
            bitsOfX = 0;
            bitsOfY = 0;
            for (int x = 0; x < p; x++) {
                one.reduceAt(1, x, p, oneAtX);
                other.reduceAt(1, x, p, otherAtX);
                for (int y = 0; y < p; y++) {
                    if (Numbers.valueAt(oneAtX, y, p) == 0 && Numbers.valueAt(otherAtX, y, p) == 0) {
                        note(x, y, wanted);
                    }
                }
            }
        }

        private void note(int x, int y, int wanted) {
            if (found == wanted) {
                wantedRoot = 100 * x + y;
            }
            found++;
            if (x != 0 && y != 0) {
                foundWithoutNoughts++;
            }
            bitsOfX |= 1 << x;
            bitsOfY |= 1 << y;
        }

        int valueOf(Poly poly, int x, int y, int p) {
            poly.reduceAt(1, x, p, oneAtX);
            return Numbers.valueAt(oneAtX, y, p);
        }

        int drawLots(Poly poly, int n, int z, int what, int p) {
            seed = z;
            int zeros = 0;
            int values = 0;
            for (int drawn = 0; drawn < n; drawn++) {
                int x = draw(p);
                int y = draw(p);
                int value = valueOf(poly, x, y, p);
                values += value;
                if (value == 0) {
                    zeros++;
                }
            }
            return what == 0 ? zeros : values;
        }

        private int draw(int m) {
            seed = seed * 1664525 + 1013904223;
            return (seed & WITHOUT_SIGN) / 256 % m;
        }
    }

    /** The least convex polygon of points, found on a grid that holds sums of two points, too. */
    private static final class Polygon {
        private static final int GRID = 2 * MOST_POWER + 1;
        private static final int CELLS = GRID * GRID;

        private final int[] marked = new int[CELLS];
        private final int[] corners = new int[2 * CELLS];
        private int size;

        void ofOne(Poly poly) {
            Arrays.fill(marked, 0);
            markMoved(poly, 0, 0);
            wrap();
        }

        void ofTwo(Poly one, Poly other) {
            Arrays.fill(marked, 0);
            for (int i = 0; i < SIDE; i++) {
                for (int j = 0; j < SIDE; j++) {
                    if (one.hasTerm(i, j)) {
                        markMoved(other, i, j);
                    }
                }
            }
            wrap();
        }

        private void markMoved(Poly poly, int right, int up) {
            for (int i = 0; i < SIDE; i++) {
                for (int j = 0; j < SIDE; j++) {
                    if (poly.hasTerm(i, j)) {
                        marked[GRID * (i + right) + j + up] = 1;
                    }
                }
            }
        }

        /** The grid's order is by i, then by j: the way there goes below all points, the way back above. */
        private void wrap() {
            size = 0;
            for (int cell = 0; cell < CELLS; cell++) {
                if (marked[cell] != 0) {
                    goOn(cell, 1);
                }
            }
            int below = size;
            int farthest = size > 0 ? corners[size - 1] : 0;
            for (int cell = farthest - 1; cell >= 0; cell--) {
                if (marked[cell] != 0) {
                    goOn(cell, below);
                }
            }
            if (size > 1) {
                size--;
            }
        }

        private void goOn(int cell, int kept) {
            while (size > kept && size > 1 && turning(corners[size - 2], corners[size - 1], cell) <= 0) {
                size--;
            }
            if (size < corners.length) {
                corners[size] = cell;
                size++;
            }
        }

        /** Above 0 if the way from a over b to c turns to the left. */
        private static int turning(int a, int b, int c) {
            int right = b / GRID - a / GRID;
            int up = b % GRID - a % GRID;
            return right * (c % GRID - a % GRID) - up * (c / GRID - a / GRID);
        }

        int cornerCode(int k) {
            return k >= 0 && k < size ? 10 * (corners[k] / GRID) + corners[k] % GRID : NONE;
        }

        int twiceCovered() {
            int twice = 0;
            for (int k = 2; k < size; k++) {
                twice += turning(corners[0], corners[k - 1], corners[k]);
            }
            return twice;
        }
    }

    /** Rows of ints that a user fills. */
    private static final class Lists {
        static final int MOST_PLACES = 40;
        private static final int MOST_LISTS = 3;
        private static final int ABSENT = -1;

        private final int[] sizes = {ABSENT, ABSENT, ABSENT};
        private final int[] places = new int[MOST_LISTS * MOST_PLACES];

        boolean has(int list) {
            return list >= 0 && list < MOST_LISTS;
        }

        boolean isMissing(int list) {
            return sizes[list] == ABSENT;
        }

        boolean hasPlace(int list, int i) {
            return i >= 0 && i < sizes[list];
        }

        void make(int list, int size) {
            sizes[list] = size;
            for (int i = 0; i < size; i++) {
                write(list, i, 0);
            }
        }

        void write(int list, int i, int v) {
            places[MOST_PLACES * list + i] = v;
        }

        int readAt(int list, int i) {
            return places[MOST_PLACES * list + i];
        }

        /** Above its degree a polynomial has 0, so that each place from the first on takes a power. */
        int lay(int list, int first, int[] row) {
            int laid = 0;
            for (int power = 0; power < row.length && hasPlace(list, first + power); power++) {
                write(list, first + power, row[power]);
                laid++;
            }
            return laid;
        }

        int firstUnlike(int list, int[] row, int p) {
            for (int power = 0; power < row.length; power++) {
                int number = hasPlace(list, power) ? Math.floorMod(readAt(list, power), p) : 0;
                if (number != row[power]) {
                    return power;
                }
            }
            return NONE;
        }
    }
}
