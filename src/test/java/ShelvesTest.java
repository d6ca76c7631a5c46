import java.util.Random;

/** Promises 37 to 43: shelves, rows, counts. */
public final class ShelvesTest {
    private static final int[] NO_SHELF = {Integer.MIN_VALUE, -1, 6, Integer.MAX_VALUE};

    public static void main(String[] args) {
        noShelf();
        keep();
        row();
        put();
        refusals();
        shift();
        shiftRandom();
        taken();
        count();
        Due.end();
    }

    private static void noShelf() {
        HoopWaist x = new HoopWaist();
        x.row(0, 0, 4);
        for (int shelf : NO_SHELF) {
            Due.same("keep", x.keep(shelf, -1), HoopWaist.BAD);
            Due.same("row", x.row(shelf, 0, 1), HoopWaist.BAD);
            Due.same("row, n below 0", x.row(shelf, 0, -1), HoopWaist.BAD);
            Due.same("put", x.put(shelf, 0, 1), HoopWaist.BAD);
            Due.same("element", x.element(shelf, 0), Long.MIN_VALUE);
            Due.same("shift", x.shift(shelf, 0, 0, 0, 0), HoopWaist.BAD);
            Due.same("shift, the other", x.shift(0, 0, shelf, 0, 0), HoopWaist.BAD);
            Due.same("shift, the other, and nothing here", x.shift(1, 0, shelf, 0, 0), HoopWaist.BAD);
            Due.same("taken", x.taken(shelf, 0), HoopWaist.BAD);
        }
    }

    // Promise 37
    private static void keep() {
        HoopWaist x = new HoopWaist();
        Due.same("no such body", x.keep(0, 0), HoopWaist.BAD);
        x.body(4);
        for (int body : new int[] {Integer.MIN_VALUE, -2, 1, 50, Integer.MAX_VALUE}) {
            Due.same("keep(0, " + body + ")", x.keep(0, body), HoopWaist.BAD);
        }
        Due.same("it holds nothing", x.taken(0, 0), -11);
        Due.same("a turn", x.keep(0, 0), 1);
        Due.same("its kind", x.taken(0, 0), 4);
        Due.same("a bad one", x.keep(0, 7), HoopWaist.BAD);
        Due.same("it stays", x.taken(0, 0), 4);
        Due.same("nothing", x.keep(0, -1), 1);
        Due.same("it holds nothing", x.taken(0, 0), -11);
        x.row(1, 0, 3);
        Due.same("a turn for a row", x.keep(1, 0), 1);
        Due.same("no row", x.put(1, 0, 1), -12);
        x.keep(1, -1);
        Due.same("nothing", x.put(1, 0, 1), -11);
    }

    // Promise 38
    private static void row() {
        HoopWaist x = new HoopWaist();
        int[][] bad = {{-1, 1}, {5, 1}, {0, 61}, {4, Integer.MAX_VALUE}, {-1, -1}, {5, Integer.MIN_VALUE}};
        for (int[] b : bad) {
            Due.same("row(0, " + b[0] + ", " + b[1] + ")", x.row(0, b[0], b[1]), HoopWaist.BAD);
        }
        Due.same("a size below 0", x.row(0, 0, -1), -14);
        Due.same("a size far below 0", x.row(0, 4, Integer.MIN_VALUE), -14);
        Due.same("the shelf holds nothing", x.element(0, 0), Long.MIN_VALUE);
        Due.same("the shelf holds nothing", x.put(0, 0, 1), -11);
        for (int sort = 0; sort <= 4; sort++) {
            Due.same("no elements", x.row(5, sort, 0), 1);
            Due.same("no place 0", x.put(5, 0, 1), -13);
            Due.same("sixty", x.row(5, sort, 60), 1);
            Due.same("0 at first", x.element(5, 0), 0);
            x.put(5, 0, 1);
            x.put(5, 59, 1);
            Due.same("the last", x.element(5, 59), 1);
            Due.same("behind the last", x.element(5, 60), Long.MIN_VALUE);
            x.row(5, sort, 60);
            Due.same("a new row is 0 again", x.element(5, 0) + x.element(5, 59), 0);
        }
        x.put(5, 3, 1);
        Due.same("a size below 0 changes nothing", x.row(5, 0, -5), -14);
        Due.same("the old row stays", x.element(5, 3), 1);
    }

    // Promises 39 and 40
    private static void put() {
        HoopWaist x = new HoopWaist();
        for (int sort = 0; sort <= 4; sort++) {
            x.row(sort, sort, 3);
        }
        long[] values = {0, 1, -1, 127, 128, 255, 256, -129, 32767, 32768, 65536, 2147483647L, 2147483648L, 4294967296L,
            -2147483649L, Long.MAX_VALUE, Long.MIN_VALUE, 0x123456789ABCDEFL, 1L << 40};
        for (long v : values) {
            for (int sort = 0; sort <= 4; sort++) {
                Due.same("put", x.put(sort, 1, v), 1);
            }
            Due.same("a byte of " + v, x.element(0, 1), (byte) v);
            Due.same("a short of " + v, x.element(1, 1), (short) v);
            Due.same("an int of " + v, x.element(2, 1), (int) v);
            Due.same("a long of " + v, x.element(3, 1), v);
            Due.same("a boolean of " + v, x.element(4, 1), v == 0 ? 0 : 1);
        }
        for (int sort = 0; sort <= 4; sort++) {
            Due.same("beside it", x.element(sort, 0) + x.element(sort, 2), 0);
        }
    }

    private static void refusals() {
        HoopWaist x = new HoopWaist();
        x.body(0);
        x.keep(1, 0);
        x.row(2, 3, 4);
        for (int i : new int[] {Integer.MIN_VALUE, -1, 0, 4, Integer.MAX_VALUE}) {
            Due.same("put on nothing", x.put(0, i, 5), -11);
            Due.same("put on a turn", x.put(1, i, 5), -12);
            Due.same("put at " + i, x.put(2, i, 5), i == 0 ? 1 : -13);
            Due.same("element of nothing", x.element(0, i), Long.MIN_VALUE);
            Due.same("element of a turn", x.element(1, i), Long.MIN_VALUE);
            Due.same("element at " + i, x.element(2, i), i == 0 ? 5 : Long.MIN_VALUE);
        }
    }

    // Promise 41
    private static void shift() {
        HoopWaist x = new HoopWaist();
        x.body(0);
        x.keep(1, 0);
        x.row(2, 0, 5);
        x.row(3, 0, 3);
        x.row(4, 4, 5);
        Due.same("from nothing", x.shift(0, 0, 2, 0, 1), -11);
        Due.same("to nothing", x.shift(2, 0, 0, 0, 1), -11);
        Due.same("from a turn to nothing", x.shift(1, 0, 0, 0, 1), -11);
        Due.same("from a turn", x.shift(1, 0, 2, 0, 1), -12);
        Due.same("to a turn", x.shift(2, 0, 1, 0, 1), -12);
        Due.same("from a turn to itself", x.shift(1, 0, 1, 0, 0), -12);
        Due.same("unlike sorts", x.shift(2, 0, 4, 0, 1), -12);
        Due.same("unlike sorts, no such place", x.shift(2, 9, 4, 0, 1), -12);
        int[][] no = {{-1, 0, 1}, {0, -1, 1}, {5, 0, 1}, {0, 3, 1}, {3, 0, 3}, {0, 0, 4}, {0, 1, 3}, {6, 0, 0}, {0, 4, 0},
            {0, 0, -1}, {Integer.MAX_VALUE, 0, 1}, {0, Integer.MAX_VALUE, 1}, {1, 1, Integer.MAX_VALUE},
            {Integer.MIN_VALUE, 0, 1}, {0, 0, Integer.MIN_VALUE}, {2, 0, Integer.MIN_VALUE}};
        for (int[] n : no) {
            Due.same("shift(2, " + n[0] + ", 3, " + n[1] + ", " + n[2] + ")", x.shift(2, n[0], 3, n[1], n[2]), -13);
        }
        Due.same("none at the ends", x.shift(2, 5, 3, 3, 0), 0);
        for (int i = 0; i < 5; i++) {
            x.put(2, i, 10 + i);
        }
        Due.same("three", x.shift(2, 1, 3, 0, 3), 3);
        Due.same("they came", x.element(3, 0) * 10000 + x.element(3, 1) * 100 + x.element(3, 2), 111213);
        Due.same("within one", x.shift(2, 0, 2, 1, 4), 4);
        Due.same("as they were before", x.element(2, 1) * 10000 + x.element(2, 2) * 100 + x.element(2, 4), 101113);
    }

    private static void shiftRandom() {
        Random r = new Random(23);
        for (int round = 0; round < 200; round++) {
            HoopWaist x = new HoopWaist();
            int sort = r.nextInt(5);
            long[][] rows = {new long[r.nextInt(12)], new long[r.nextInt(12)]};
            for (int s = 0; s < 2; s++) {
                x.row(s, sort, rows[s].length);
                for (int i = 0; i < rows[s].length; i++) {
                    x.put(s, i, r.nextInt(100) - 50);
                    rows[s][i] = x.element(s, i);
                }
            }
            int from = r.nextInt(2);
            int to = r.nextInt(2);
            int i = r.nextInt(14) - 1;
            int j = r.nextInt(14) - 1;
            int n = r.nextInt(10) - 1;
            int want = n;
            try {
                System.arraycopy(rows[from], i, rows[to], j, n);
            } catch (IndexOutOfBoundsException e) {
                want = -13;
            }
            Due.same("shift", x.shift(from, i, to, j, n), want);
            for (int s = 0; s < 2; s++) {
                for (int k = 0; k < rows[s].length; k++) {
                    Due.same("element", x.element(s, k), rows[s][k]);
                }
            }
        }
    }

    // Promise 42
    private static void taken() {
        HoopWaist x = new HoopWaist();
        int[] above = {-1, 0, 0, 2, 1, 3, 0, 4};
        x.row(5, 0, 3);
        for (int k : new int[] {Integer.MIN_VALUE, -1, 8, Integer.MAX_VALUE}) {
            Due.same("taken(0, " + k + ")", x.taken(0, k), HoopWaist.BAD);
        }
        for (int kind = 0; kind < 8; kind++) {
            x.keep(0, x.body(kind));
            for (int k = 0; k < 8; k++) {
                boolean under = false;
                for (int at = kind; at >= 0; at = above[at]) {
                    under = under || at == k;
                }
                Due.same("kind " + kind + " taken for " + k, x.taken(0, k), under ? kind : -12);
                Due.same("a row taken for " + k, x.taken(5, k), -12);
                Due.same("nothing taken for " + k, x.taken(1, k), -11);
            }
        }
    }

    // Promise 43
    private static void count() {
        HoopWaist x = new HoopWaist();
        for (int what : new int[] {Integer.MIN_VALUE, -1, 6, Integer.MAX_VALUE}) {
            Due.same("count(" + what + ")", x.count(what), HoopWaist.BAD);
        }
        x.hoop(11);
        x.hoop(99);
        x.hoop(99);
        x.mend(1, 2, -3);
        x.mend(0, 3, 0);
        x.feed('n');
        x.body(3);
        x.body(3);
        x.body(3);
        x.body(5);
        x.act(3, 3, 1);
        int[] want = {3, 3, 1, 2, 4, 8};
        for (int what = 0; what < 6; what++) {
            Due.same("count(" + what + ")", x.count(what), want[what]);
        }
        x.go(x.lasts() + 1);
        Due.same("one lies", x.count(1), 2);
        Due.same("all are there", x.count(0), 3);
    }
}
