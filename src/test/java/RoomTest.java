import java.lang.management.ManagementFactory;

/** Rows are made with an object and used again: no call makes anything, and an object is small. */
public final class RoomTest {
    private static final int CALLS = 512;
    private static final long BYTES_OF_AN_OBJECT = 4L * 20000;

    public static void main(String[] args) {
        com.sun.management.ThreadMXBean threads = (com.sun.management.ThreadMXBean) ManagementFactory.getThreadMXBean();
        long thread = Thread.currentThread().getId();
        run(new LettersEliminated());
        long start = threads.getThreadAllocatedBytes(thread);
        LettersEliminated x = new LettersEliminated();
        long made = threads.getThreadAllocatedBytes(thread) - start;
        start = threads.getThreadAllocatedBytes(thread);
        run(x);
        long used = threads.getThreadAllocatedBytes(thread) - start;
        System.out.println("an object: " + made + " bytes; " + CALLS + " rounds of calls: " + used + " bytes");
        if (made > BYTES_OF_AN_OBJECT || used > CALLS) {
            System.exit(1);
        }
    }

    private static int run(LettersEliminated x) {
        int all = x.list(0, 40);
        for (int k = 0; k < 2; k++) {
            all += x.letter('x') + x.letter('+') + x.letter('1') + x.poly();
            for (int n = 0; n < 25; n++) {
                all += x.change(k, n / 5, n % 5, n * n + k + 1);
            }
        }
        all += x.prime(31) + x.image();
        for (int n = 0; n < CALLS; n++) {
            int letter = n % 2;
            int table = n / 2 % 2;
            all += x.letter('y') + x.poly() + x.product(2, 2) + x.drop() + x.turn(0, n % 6, n % 10) + x.undo() + x.on();
            all += x.coefficient(0, 1, 1) + x.of(0, n % 6) + x.term(0, letter, 3) + x.value(0, 5, 6);
            all += x.rows(0, 1, letter, table) + x.entry(0, 1, letter, table, 1, 1, 1) + x.result(0, 1, letter, table, 9);
            all += x.degree(0, 1, letter, table) + x.at(0, 1, letter, table, 3) + x.remainder(0, 1, letter, 3, -1);
            all += x.common(0, 1, letter, 3) + x.norm(0, 1, letter, 4) + x.extra(0, 1, letter) + x.zeros(0, 1, letter);
            all += x.lifted(0, 1, letter) + x.root(0, 1, 3) + x.without(0, 1) + x.corner(0, 1) + x.area(0);
            all += x.sum(0, 1, 2) + x.mixed(0, 1) + (int) x.odds(0, 1) + x.lots(0, 50, n, 1) + x.put(0, 3, n);
            all += (int) x.look(0, 3) + x.lays(0, 0, 0, 1, letter, table) + x.judge(0, 0, 1, letter, table) + x.count(2);
        }
        return all;
    }
}
